/-! THE CONSTRUCTORS -/
def spC : Nat → Nat → Int32
  | 0 => fun _ => 0
  | k + 1 => upd (spC k) k (-1)
abbrev spF : Nat → Int32 := spC 10
def mC : Nat → Nat → Int32
  | 0 => upd (fun _ => 0) 1 1
  | k + 1 => upd (mC k) (88 + k) (-1)
abbrev mF : Nat → Int32 := mC 10
abbrev wX0 (ca : Nat → ClassId) (a : Nat) (u : Nat → Nat) : va_W := [(a, .inr (0, [.ref (u 1), .ref (u 2), .ref (u 3), .ref (u 4), .int 0, .int 0, .int 0, .int 1])), (u 1, .inl (ca 0, 6, .inl (fun _ => 0))), (u 2, .inl (ca 0, 48, .inl (fun _ => 0))), (u 3, .inl (ca 0, 30, .inl (fun _ => 0))), (u 4, .inl (ca 0, 10, .inl spF))]
abbrev wX1 (ca : Nat → ClassId) (a : Nat) (u : Nat → Nat) : va_W := [(a, .inr (1, [.ref (u 1), .int 0, .int 0])), (u 1, .inl (ca 0, 40, .inl (fun _ => 0)))]
abbrev wX2 (ca : Nat → ClassId) (a : Nat) (u : Nat → Nat) : va_W := [(a, .inr (2, [.ref (u 1), .int 0, .int 0, .int 0, .int 0, .int 0])), (u 1, .inl (ca 1, 120, .inl (fun _ => 0)))]
abbrev wX4 (ca : Nat → ClassId) (a : Nat) (u : Nat → Nat) : va_W := [(a, .inr (4, [.ref (u 1), .ref (u 2), .ref (u 3), .int 0, .ref (u 4), .ref (u 5), .ref (u 6), .ref (u 7), .ref (u 8), .int 0, .int 0, .int 0, .int 0, .int 0, .int 0])), (u 1, .inl (ca 0, 98, .inl mF)), (u 2, .inl (ca 0, 98, .inl (fun _ => 0))), (u 3, .inl (ca 0, 98, .inl (fun _ => 0))), (u 4, .inl (ca 0, 7, .inl (fun _ => 0))), (u 5, .inl (ca 0, 4, .inl (fun _ => 0))), (u 6, .inl (ca 0, 4, .inl (fun _ => 0))), (u 7, .inl (ca 0, 160, .inl (fun _ => 0))), (u 8, .inl (ca 0, 120, .inl (fun _ => 0)))]
abbrev wX3 (ca : Nat → ClassId) (a : Nat) (u : Nat → Nat) : va_W := [(a, .inr (3, [.ref (u 1), .ref (u 6), .ref (u 11), .ref (u 16), .ref (u 18), .ref (u 27), .int 0])), (u 1, .inr (0, [.ref (u 2), .ref (u 3), .ref (u 4), .ref (u 5), .int 0, .int 0, .int 0, .int 1])), (u 2, .inl (ca 0, 6, .inl (fun _ => 0))), (u 3, .inl (ca 0, 48, .inl (fun _ => 0))), (u 4, .inl (ca 0, 30, .inl (fun _ => 0))), (u 5, .inl (ca 0, 10, .inl spF)), (u 6, .inr (0, [.ref (u 7), .ref (u 8), .ref (u 9), .ref (u 10), .int 0, .int 0, .int 0, .int 1])), (u 7, .inl (ca 0, 6, .inl (fun _ => 0))), (u 8, .inl (ca 0, 48, .inl (fun _ => 0))), (u 9, .inl (ca 0, 30, .inl (fun _ => 0))), (u 10, .inl (ca 0, 10, .inl spF)), (u 11, .inr (0, [.ref (u 12), .ref (u 13), .ref (u 14), .ref (u 15), .int 0, .int 0, .int 0, .int 1])), (u 12, .inl (ca 0, 6, .inl (fun _ => 0))), (u 13, .inl (ca 0, 48, .inl (fun _ => 0))), (u 14, .inl (ca 0, 30, .inl (fun _ => 0))), (u 15, .inl (ca 0, 10, .inl spF)), (u 16, .inr (2, [.ref (u 17), .int 0, .int 0, .int 0, .int 0, .int 0])), (u 17, .inl (ca 1, 120, .inl (fun _ => 0))), (u 18, .inl (ca 2, 4, .inr (.inr (.inr (.inr (va_up (va_up (va_up (va_up (fun _ => none) 0 (some (u 19))) 1 (some (u 21))) 2 (some (u 23))) 3 (some (u 25)))))))), (u 19, .inr (1, [.ref (u 20), .int 0, .int 0])), (u 20, .inl (ca 0, 40, .inl (fun _ => 0))), (u 21, .inr (1, [.ref (u 22), .int 0, .int 0])), (u 22, .inl (ca 0, 40, .inl (fun _ => 0))), (u 23, .inr (1, [.ref (u 24), .int 0, .int 0])), (u 24, .inl (ca 0, 40, .inl (fun _ => 0))), (u 25, .inr (1, [.ref (u 26), .int 0, .int 0])), (u 26, .inl (ca 0, 40, .inl (fun _ => 0))), (u 27, .inl (ca 0, 7, .inl (fun _ => 0)))]
theorem fpf_X0_0 : FPF RX0 0 0 (.array .int) := ⟨_, _, _, tyX0, rfl, rfl, by decide +kernel, tyX0_ok, nmX0, rfl⟩
theorem fpf_X0_1 : FPF RX0 0 1 (.array .int) := ⟨_, _, _, tyX0, rfl, rfl, by decide +kernel, tyX0_ok, nmX0, rfl⟩
theorem fpf_X0_2 : FPF RX0 0 2 (.array .int) := ⟨_, _, _, tyX0, rfl, rfl, by decide +kernel, tyX0_ok, nmX0, rfl⟩
theorem fpf_X0_3 : FPF RX0 0 3 (.array .int) := ⟨_, _, _, tyX0, rfl, rfl, by decide +kernel, tyX0_ok, nmX0, rfl⟩
theorem fpf_X1_0 : FPF RX1 1 0 (.array .int) := ⟨_, _, _, tyX1, rfl, rfl, by decide +kernel, tyX1_ok, nmX1, rfl⟩
theorem fpf_X2_0 : FPF RX2 2 0 (.array .byte) := ⟨_, _, _, tyX2, rfl, rfl, by decide +kernel, tyX2_ok, nmX2, rfl⟩
theorem fpf_X3_0 : FPF RX3 3 0 (.object "ForkInn$Inn") := ⟨_, _, _, tyX3, rfl, rfl, by decide +kernel, tyX3_ok, nmX3, rfl⟩
theorem fpf_X3_1 : FPF RX3 3 1 (.object "ForkInn$Inn") := ⟨_, _, _, tyX3, rfl, rfl, by decide +kernel, tyX3_ok, nmX3, rfl⟩
theorem fpf_X3_2 : FPF RX3 3 2 (.object "ForkInn$Inn") := ⟨_, _, _, tyX3, rfl, rfl, by decide +kernel, tyX3_ok, nmX3, rfl⟩
theorem fpf_X3_3 : FPF RX3 3 3 (.object "ForkInn$Tape") := ⟨_, _, _, tyX3, rfl, rfl, by decide +kernel, tyX3_ok, nmX3, rfl⟩
theorem fpf_X3_4 : FPF RX3 3 4 (.array (.object "ForkInn$Sheet")) := ⟨_, _, _, tyX3, rfl, rfl, by decide +kernel, tyX3_ok, nmX3, rfl⟩
theorem fpf_X3_5 : FPF RX3 3 5 (.array .int) := ⟨_, _, _, tyX3, rfl, rfl, by decide +kernel, tyX3_ok, nmX3, rfl⟩
theorem fpf_X4_0 : FPF RX4 4 0 (.array .int) := ⟨_, _, _, tyX4, rfl, rfl, by decide +kernel, tyX4_ok, nmX4, rfl⟩
theorem fpf_X4_1 : FPF RX4 4 1 (.array .int) := ⟨_, _, _, tyX4, rfl, rfl, by decide +kernel, tyX4_ok, nmX4, rfl⟩
theorem fpf_X4_2 : FPF RX4 4 2 (.array .int) := ⟨_, _, _, tyX4, rfl, rfl, by decide +kernel, tyX4_ok, nmX4, rfl⟩
theorem fpf_X4_4 : FPF RX4 4 4 (.array .int) := ⟨_, _, _, tyX4, rfl, rfl, by decide +kernel, tyX4_ok, nmX4, rfl⟩
theorem fpf_X4_5 : FPF RX4 4 5 (.array .int) := ⟨_, _, _, tyX4, rfl, rfl, by decide +kernel, tyX4_ok, nmX4, rfl⟩
theorem fpf_X4_6 : FPF RX4 4 6 (.array .int) := ⟨_, _, _, tyX4, rfl, rfl, by decide +kernel, tyX4_ok, nmX4, rfl⟩
theorem fpf_X4_7 : FPF RX4 4 7 (.array .int) := ⟨_, _, _, tyX4, rfl, rfl, by decide +kernel, tyX4_ok, nmX4, rfl⟩
theorem fpf_X4_8 : FPF RX4 4 8 (.array .int) := ⟨_, _, _, tyX4, rfl, rfl, by decide +kernel, tyX4_ok, nmX4, rfl⟩
set_option maxRecDepth 100000 in
set_option maxHeartbeats 1000000 in
theorem c_X0_init : Ctor yX0_init cX0_init 2 0 fsX0 1 4 94 wX0 := by
  refine Ctor.of mi_X0_init rfl (by decide) ?_
  intro D ca a
  refine b_aload_n 0 dX0_init_0 rfl ?_
  refine b_obj dX0_init_1 ob_X0 (by decide) (Nat.le_of_ble_eq_true rfl) ?_
  refine b_aload_n 0 dX0_init_4 rfl ?_
  refine b_bipush (v := 6) dX0_init_5 (by decide) ?_
  refine b_newa 0 6 dX0_init_7 ac_I rfl rfl rfl (by decide) (by decide) (by decide) (by decide) (by decide) (fun q1 => ?_)
  refine b_ws [(a, .inr (0, [.null, .null, .null, .null, .int (0), .int (0), .int (0), .int (0)])), (q1, .inl (ca 0, 6, .inl (fun _ => 0)))] rfl ?_
  refine b_putF 0 rfl dX0_init_9 fl_X0_11 fpf_X0_0 rfl rfl rfl (Nat.le_of_ble_eq_true rfl) ?_
  refine b_ws [(a, .inr (0, [.ref (q1), .null, .null, .null, .int (0), .int (0), .int (0), .int (0)])), (q1, .inl (ca 0, 6, .inl (fun _ => 0)))] rfl ?_
  refine b_aload_n 0 dX0_init_12 rfl ?_
  refine b_bipush (v := 48) dX0_init_13 (by decide) ?_
  refine b_newa 0 48 dX0_init_15 ac_I rfl rfl rfl (by decide) (by decide) (by decide) (by decide) (by decide) (fun q2 => ?_)
  refine b_ws [(a, .inr (0, [.ref (q1), .null, .null, .null, .int (0), .int (0), .int (0), .int (0)])), (q1, .inl (ca 0, 6, .inl (fun _ => 0))), (q2, .inl (ca 0, 48, .inl (fun _ => 0)))] rfl ?_
  refine b_putF 0 rfl dX0_init_17 fl_X0_15 fpf_X0_1 rfl rfl rfl (Nat.le_of_ble_eq_true rfl) ?_
  refine b_ws [(a, .inr (0, [.ref (q1), .ref (q2), .null, .null, .int (0), .int (0), .int (0), .int (0)])), (q1, .inl (ca 0, 6, .inl (fun _ => 0))), (q2, .inl (ca 0, 48, .inl (fun _ => 0)))] rfl ?_
  refine b_aload_n 0 dX0_init_20 rfl ?_
  refine b_bipush (v := 30) dX0_init_21 (by decide) ?_
  refine b_newa 0 30 dX0_init_23 ac_I rfl rfl rfl (by decide) (by decide) (by decide) (by decide) (by decide) (fun q3 => ?_)
  refine b_ws [(a, .inr (0, [.ref (q1), .ref (q2), .null, .null, .int (0), .int (0), .int (0), .int (0)])), (q1, .inl (ca 0, 6, .inl (fun _ => 0))), (q2, .inl (ca 0, 48, .inl (fun _ => 0))), (q3, .inl (ca 0, 30, .inl (fun _ => 0)))] rfl ?_
  refine b_putF 0 rfl dX0_init_25 fl_X0_18 fpf_X0_2 rfl rfl rfl (Nat.le_of_ble_eq_true rfl) ?_
  refine b_ws [(a, .inr (0, [.ref (q1), .ref (q2), .ref (q3), .null, .int (0), .int (0), .int (0), .int (0)])), (q1, .inl (ca 0, 6, .inl (fun _ => 0))), (q2, .inl (ca 0, 48, .inl (fun _ => 0))), (q3, .inl (ca 0, 30, .inl (fun _ => 0)))] rfl ?_
  refine b_aload_n 0 dX0_init_28 rfl ?_
  refine b_bipush (v := 10) dX0_init_29 (by decide) ?_
  refine b_newa 0 10 dX0_init_31 ac_I rfl rfl rfl (by decide) (by decide) (by decide) (by decide) (by decide) (fun q4 => ?_)
  refine b_ws [(a, .inr (0, [.ref (q1), .ref (q2), .ref (q3), .null, .int (0), .int (0), .int (0), .int (0)])), (q1, .inl (ca 0, 6, .inl (fun _ => 0))), (q2, .inl (ca 0, 48, .inl (fun _ => 0))), (q3, .inl (ca 0, 30, .inl (fun _ => 0))), (q4, .inl (ca 0, 10, .inl (fun _ => 0)))] rfl ?_
  refine b_putF 0 rfl dX0_init_33 fl_X0_21 fpf_X0_3 rfl rfl rfl (Nat.le_of_ble_eq_true rfl) ?_
  refine b_ws [(a, .inr (0, [.ref (q1), .ref (q2), .ref (q3), .ref (q4), .int (0), .int (0), .int (0), .int (0)])), (q1, .inl (ca 0, 6, .inl (fun _ => 0))), (q2, .inl (ca 0, 48, .inl (fun _ => 0))), (q3, .inl (ca 0, 30, .inl (fun _ => 0))), (q4, .inl (ca 0, 10, .inl (fun _ => 0)))] rfl ?_
  refine b_iconst (v := 0) dX0_init_36 (by decide) ?_
  refine b_istore_n [(1, .int (0)), (0, .ref (a))] dX0_init_37 (by decide) rfl ?_
  refine b_iload_n 0 dX0_init_38 rfl ?_
  refine b_bipush (v := 10) dX0_init_39 (by decide) ?_
  refine b_ge_f 57 dX0_init_41 (by decide) (by decide) ?_
  refine b_aload_n 1 dX0_init_44 rfl ?_
  refine b_get 0 dX0_init_45 fl_X0_21 rfl rfl ?_
  refine b_iload_n 0 dX0_init_48 rfl ?_
  refine b_iconst (v := -1) dX0_init_49 (by decide) ?_
  refine b_iast (j := 0) 4 dX0_init_50 rfl (by decide) (by decide) (by decide) ?_
  refine b_ws [(a, .inr (0, [.ref (q1), .ref (q2), .ref (q3), .ref (q4), .int (0), .int (0), .int (0), .int (0)])), (q1, .inl (ca 0, 6, .inl (fun _ => 0))), (q2, .inl (ca 0, 48, .inl (fun _ => 0))), (q3, .inl (ca 0, 30, .inl (fun _ => 0))), (q4, .inl (ca 0, 10, .inl (spC 1)))] rfl ?_
  refine b_iinc (j := 0) (v := 1) [(1, .int (1)), (0, .ref (a))] dX0_init_51 rfl (by decide) (by decide) rfl ?_
  refine b_goto 38 dX0_init_54 (by decide) ?_
  refine b_iload_n 0 dX0_init_38 rfl ?_
  refine b_bipush (v := 10) dX0_init_39 (by decide) ?_
  refine b_ge_f 57 dX0_init_41 (by decide) (by decide) ?_
  refine b_aload_n 1 dX0_init_44 rfl ?_
  refine b_get 0 dX0_init_45 fl_X0_21 rfl rfl ?_
  refine b_iload_n 0 dX0_init_48 rfl ?_
  refine b_iconst (v := -1) dX0_init_49 (by decide) ?_
  refine b_iast (j := 1) 4 dX0_init_50 rfl (by decide) (by decide) (by decide) ?_
  refine b_ws [(a, .inr (0, [.ref (q1), .ref (q2), .ref (q3), .ref (q4), .int (0), .int (0), .int (0), .int (0)])), (q1, .inl (ca 0, 6, .inl (fun _ => 0))), (q2, .inl (ca 0, 48, .inl (fun _ => 0))), (q3, .inl (ca 0, 30, .inl (fun _ => 0))), (q4, .inl (ca 0, 10, .inl (spC 2)))] rfl ?_
  refine b_iinc (j := 0) (v := 2) [(1, .int (2)), (0, .ref (a))] dX0_init_51 rfl (by decide) (by decide) rfl ?_
  refine b_goto 38 dX0_init_54 (by decide) ?_
  refine b_iload_n 0 dX0_init_38 rfl ?_
  refine b_bipush (v := 10) dX0_init_39 (by decide) ?_
  refine b_ge_f 57 dX0_init_41 (by decide) (by decide) ?_
  refine b_aload_n 1 dX0_init_44 rfl ?_
  refine b_get 0 dX0_init_45 fl_X0_21 rfl rfl ?_
  refine b_iload_n 0 dX0_init_48 rfl ?_
  refine b_iconst (v := -1) dX0_init_49 (by decide) ?_
  refine b_iast (j := 2) 4 dX0_init_50 rfl (by decide) (by decide) (by decide) ?_
  refine b_ws [(a, .inr (0, [.ref (q1), .ref (q2), .ref (q3), .ref (q4), .int (0), .int (0), .int (0), .int (0)])), (q1, .inl (ca 0, 6, .inl (fun _ => 0))), (q2, .inl (ca 0, 48, .inl (fun _ => 0))), (q3, .inl (ca 0, 30, .inl (fun _ => 0))), (q4, .inl (ca 0, 10, .inl (spC 3)))] rfl ?_
  refine b_iinc (j := 0) (v := 3) [(1, .int (3)), (0, .ref (a))] dX0_init_51 rfl (by decide) (by decide) rfl ?_
  refine b_goto 38 dX0_init_54 (by decide) ?_
  refine b_iload_n 0 dX0_init_38 rfl ?_
  refine b_bipush (v := 10) dX0_init_39 (by decide) ?_
  refine b_ge_f 57 dX0_init_41 (by decide) (by decide) ?_
  refine b_aload_n 1 dX0_init_44 rfl ?_
  refine b_get 0 dX0_init_45 fl_X0_21 rfl rfl ?_
  refine b_iload_n 0 dX0_init_48 rfl ?_
  refine b_iconst (v := -1) dX0_init_49 (by decide) ?_
  refine b_iast (j := 3) 4 dX0_init_50 rfl (by decide) (by decide) (by decide) ?_
  refine b_ws [(a, .inr (0, [.ref (q1), .ref (q2), .ref (q3), .ref (q4), .int (0), .int (0), .int (0), .int (0)])), (q1, .inl (ca 0, 6, .inl (fun _ => 0))), (q2, .inl (ca 0, 48, .inl (fun _ => 0))), (q3, .inl (ca 0, 30, .inl (fun _ => 0))), (q4, .inl (ca 0, 10, .inl (spC 4)))] rfl ?_
  refine b_iinc (j := 0) (v := 4) [(1, .int (4)), (0, .ref (a))] dX0_init_51 rfl (by decide) (by decide) rfl ?_
  refine b_goto 38 dX0_init_54 (by decide) ?_
  refine b_iload_n 0 dX0_init_38 rfl ?_
  refine b_bipush (v := 10) dX0_init_39 (by decide) ?_
  refine b_ge_f 57 dX0_init_41 (by decide) (by decide) ?_
  refine b_aload_n 1 dX0_init_44 rfl ?_
  refine b_get 0 dX0_init_45 fl_X0_21 rfl rfl ?_
  refine b_iload_n 0 dX0_init_48 rfl ?_
  refine b_iconst (v := -1) dX0_init_49 (by decide) ?_
  refine b_iast (j := 4) 4 dX0_init_50 rfl (by decide) (by decide) (by decide) ?_
  refine b_ws [(a, .inr (0, [.ref (q1), .ref (q2), .ref (q3), .ref (q4), .int (0), .int (0), .int (0), .int (0)])), (q1, .inl (ca 0, 6, .inl (fun _ => 0))), (q2, .inl (ca 0, 48, .inl (fun _ => 0))), (q3, .inl (ca 0, 30, .inl (fun _ => 0))), (q4, .inl (ca 0, 10, .inl (spC 5)))] rfl ?_
  refine b_iinc (j := 0) (v := 5) [(1, .int (5)), (0, .ref (a))] dX0_init_51 rfl (by decide) (by decide) rfl ?_
  refine b_goto 38 dX0_init_54 (by decide) ?_
  refine b_iload_n 0 dX0_init_38 rfl ?_
  refine b_bipush (v := 10) dX0_init_39 (by decide) ?_
  refine b_ge_f 57 dX0_init_41 (by decide) (by decide) ?_
  refine b_aload_n 1 dX0_init_44 rfl ?_
  refine b_get 0 dX0_init_45 fl_X0_21 rfl rfl ?_
  refine b_iload_n 0 dX0_init_48 rfl ?_
  refine b_iconst (v := -1) dX0_init_49 (by decide) ?_
  refine b_iast (j := 5) 4 dX0_init_50 rfl (by decide) (by decide) (by decide) ?_
  refine b_ws [(a, .inr (0, [.ref (q1), .ref (q2), .ref (q3), .ref (q4), .int (0), .int (0), .int (0), .int (0)])), (q1, .inl (ca 0, 6, .inl (fun _ => 0))), (q2, .inl (ca 0, 48, .inl (fun _ => 0))), (q3, .inl (ca 0, 30, .inl (fun _ => 0))), (q4, .inl (ca 0, 10, .inl (spC 6)))] rfl ?_
  refine b_iinc (j := 0) (v := 6) [(1, .int (6)), (0, .ref (a))] dX0_init_51 rfl (by decide) (by decide) rfl ?_
  refine b_goto 38 dX0_init_54 (by decide) ?_
  refine b_iload_n 0 dX0_init_38 rfl ?_
  refine b_bipush (v := 10) dX0_init_39 (by decide) ?_
  refine b_ge_f 57 dX0_init_41 (by decide) (by decide) ?_
  refine b_aload_n 1 dX0_init_44 rfl ?_
  refine b_get 0 dX0_init_45 fl_X0_21 rfl rfl ?_
  refine b_iload_n 0 dX0_init_48 rfl ?_
  refine b_iconst (v := -1) dX0_init_49 (by decide) ?_
  refine b_iast (j := 6) 4 dX0_init_50 rfl (by decide) (by decide) (by decide) ?_
  refine b_ws [(a, .inr (0, [.ref (q1), .ref (q2), .ref (q3), .ref (q4), .int (0), .int (0), .int (0), .int (0)])), (q1, .inl (ca 0, 6, .inl (fun _ => 0))), (q2, .inl (ca 0, 48, .inl (fun _ => 0))), (q3, .inl (ca 0, 30, .inl (fun _ => 0))), (q4, .inl (ca 0, 10, .inl (spC 7)))] rfl ?_
  refine b_iinc (j := 0) (v := 7) [(1, .int (7)), (0, .ref (a))] dX0_init_51 rfl (by decide) (by decide) rfl ?_
  refine b_goto 38 dX0_init_54 (by decide) ?_
  refine b_iload_n 0 dX0_init_38 rfl ?_
  refine b_bipush (v := 10) dX0_init_39 (by decide) ?_
  refine b_ge_f 57 dX0_init_41 (by decide) (by decide) ?_
  refine b_aload_n 1 dX0_init_44 rfl ?_
  refine b_get 0 dX0_init_45 fl_X0_21 rfl rfl ?_
  refine b_iload_n 0 dX0_init_48 rfl ?_
  refine b_iconst (v := -1) dX0_init_49 (by decide) ?_
  refine b_iast (j := 7) 4 dX0_init_50 rfl (by decide) (by decide) (by decide) ?_
  refine b_ws [(a, .inr (0, [.ref (q1), .ref (q2), .ref (q3), .ref (q4), .int (0), .int (0), .int (0), .int (0)])), (q1, .inl (ca 0, 6, .inl (fun _ => 0))), (q2, .inl (ca 0, 48, .inl (fun _ => 0))), (q3, .inl (ca 0, 30, .inl (fun _ => 0))), (q4, .inl (ca 0, 10, .inl (spC 8)))] rfl ?_
  refine b_iinc (j := 0) (v := 8) [(1, .int (8)), (0, .ref (a))] dX0_init_51 rfl (by decide) (by decide) rfl ?_
  refine b_goto 38 dX0_init_54 (by decide) ?_
  refine b_iload_n 0 dX0_init_38 rfl ?_
  refine b_bipush (v := 10) dX0_init_39 (by decide) ?_
  refine b_ge_f 57 dX0_init_41 (by decide) (by decide) ?_
  refine b_aload_n 1 dX0_init_44 rfl ?_
  refine b_get 0 dX0_init_45 fl_X0_21 rfl rfl ?_
  refine b_iload_n 0 dX0_init_48 rfl ?_
  refine b_iconst (v := -1) dX0_init_49 (by decide) ?_
  refine b_iast (j := 8) 4 dX0_init_50 rfl (by decide) (by decide) (by decide) ?_
  refine b_ws [(a, .inr (0, [.ref (q1), .ref (q2), .ref (q3), .ref (q4), .int (0), .int (0), .int (0), .int (0)])), (q1, .inl (ca 0, 6, .inl (fun _ => 0))), (q2, .inl (ca 0, 48, .inl (fun _ => 0))), (q3, .inl (ca 0, 30, .inl (fun _ => 0))), (q4, .inl (ca 0, 10, .inl (spC 9)))] rfl ?_
  refine b_iinc (j := 0) (v := 9) [(1, .int (9)), (0, .ref (a))] dX0_init_51 rfl (by decide) (by decide) rfl ?_
  refine b_goto 38 dX0_init_54 (by decide) ?_
  refine b_iload_n 0 dX0_init_38 rfl ?_
  refine b_bipush (v := 10) dX0_init_39 (by decide) ?_
  refine b_ge_f 57 dX0_init_41 (by decide) (by decide) ?_
  refine b_aload_n 1 dX0_init_44 rfl ?_
  refine b_get 0 dX0_init_45 fl_X0_21 rfl rfl ?_
  refine b_iload_n 0 dX0_init_48 rfl ?_
  refine b_iconst (v := -1) dX0_init_49 (by decide) ?_
  refine b_iast (j := 9) 4 dX0_init_50 rfl (by decide) (by decide) (by decide) ?_
  refine b_ws [(a, .inr (0, [.ref (q1), .ref (q2), .ref (q3), .ref (q4), .int (0), .int (0), .int (0), .int (0)])), (q1, .inl (ca 0, 6, .inl (fun _ => 0))), (q2, .inl (ca 0, 48, .inl (fun _ => 0))), (q3, .inl (ca 0, 30, .inl (fun _ => 0))), (q4, .inl (ca 0, 10, .inl (spC 10)))] rfl ?_
  refine b_iinc (j := 0) (v := 10) [(1, .int (10)), (0, .ref (a))] dX0_init_51 rfl (by decide) (by decide) rfl ?_
  refine b_goto 38 dX0_init_54 (by decide) ?_
  refine b_iload_n 0 dX0_init_38 rfl ?_
  refine b_bipush (v := 10) dX0_init_39 (by decide) ?_
  refine b_ge_t 57 dX0_init_41 (by decide) (by decide) ?_
  refine b_aload_n 1 dX0_init_57 rfl ?_
  refine b_iconst (v := 1) dX0_init_58 (by decide) ?_
  refine b_put 0 dX0_init_59 fl_X0_24 fp_0_7 rfl rfl rfl (Nat.le_of_ble_eq_true rfl) ?_
  refine b_ws [(a, .inr (0, [.ref (q1), .ref (q2), .ref (q3), .ref (q4), .int (0), .int (0), .int (0), .int (1)])), (q1, .inl (ca 0, 6, .inl (fun _ => 0))), (q2, .inl (ca 0, 48, .inl (fun _ => 0))), (q3, .inl (ca 0, 30, .inl (fun _ => 0))), (q4, .inl (ca 0, 10, .inl (spC 10)))] rfl ?_
  exact b_end ⟨rfl, dX0_init_62, Nat.le_of_ble_eq_true rfl, Nat.le_of_ble_eq_true rfl, (fun i => [0, q1, q2, q3, q4].getD i 0), rfl⟩

set_option maxRecDepth 100000 in
set_option maxHeartbeats 1000000 in
theorem c_X1_init : Ctor yX1_init cX1_init 1 1 fsX1 1 1 40 wX1 := by
  refine Ctor.of mi_X1_init rfl (by decide) ?_
  intro D ca a
  refine b_aload_n 0 dX1_init_0 rfl ?_
  refine b_obj dX1_init_1 ob_X1 (by decide) (Nat.le_of_ble_eq_true rfl) ?_
  refine b_aload_n 0 dX1_init_4 rfl ?_
  refine b_bipush (v := 40) dX1_init_5 (by decide) ?_
  refine b_newa 0 40 dX1_init_7 ac_I rfl rfl rfl (by decide) (by decide) (by decide) (by decide) (by decide) (fun q1 => ?_)
  refine b_ws [(a, .inr (1, [.null, .int (0), .int (0)])), (q1, .inl (ca 0, 40, .inl (fun _ => 0)))] rfl ?_
  refine b_putF 0 rfl dX1_init_9 fl_X1_9 fpf_X1_0 rfl rfl rfl (Nat.le_of_ble_eq_true rfl) ?_
  refine b_ws [(a, .inr (1, [.ref (q1), .int (0), .int (0)])), (q1, .inl (ca 0, 40, .inl (fun _ => 0)))] rfl ?_
  exact b_end ⟨rfl, dX1_init_12, Nat.le_of_ble_eq_true rfl, Nat.le_of_ble_eq_true rfl, (fun i => [0, q1].getD i 0), rfl⟩

set_option maxRecDepth 100000 in
set_option maxHeartbeats 1000000 in
theorem c_X2_init : Ctor yX2_init cX2_init 1 2 fsX2 1 1 120 wX2 := by
  refine Ctor.of mi_X2_init rfl (by decide) ?_
  intro D ca a
  refine b_aload_n 0 dX2_init_0 rfl ?_
  refine b_obj dX2_init_1 ob_X2 (by decide) (Nat.le_of_ble_eq_true rfl) ?_
  refine b_aload_n 0 dX2_init_4 rfl ?_
  refine b_bipush (v := 120) dX2_init_5 (by decide) ?_
  refine b_newa 1 120 dX2_init_7 ac_B rfl rfl rfl (by decide) (by decide) (by decide) (by decide) (by decide) (fun q1 => ?_)
  refine b_ws [(a, .inr (2, [.null, .int (0), .int (0), .int (0), .int (0), .int (0)])), (q1, .inl (ca 1, 120, .inl (fun _ => 0)))] rfl ?_
  refine b_putF 0 rfl dX2_init_9 fl_X2_9 fpf_X2_0 rfl rfl rfl (Nat.le_of_ble_eq_true rfl) ?_
  refine b_ws [(a, .inr (2, [.ref (q1), .int (0), .int (0), .int (0), .int (0), .int (0)])), (q1, .inl (ca 1, 120, .inl (fun _ => 0)))] rfl ?_
  exact b_end ⟨rfl, dX2_init_12, Nat.le_of_ble_eq_true rfl, Nat.le_of_ble_eq_true rfl, (fun i => [0, q1].getD i 0), rfl⟩

