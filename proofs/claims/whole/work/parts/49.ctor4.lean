set_option maxRecDepth 100000 in
set_option maxHeartbeats 1000000 in
theorem c_X4_init : Ctor yX4_init cX4_init 2 4 fsX4 1 8 589 wX4 := by
  refine Ctor.of mi_X4_init rfl (by decide) ?_
  intro D ca a
  refine b_aload_n 0 dX4_init_0 rfl ?_
  refine b_obj dX4_init_1 ob_X4 (by decide) (Nat.le_of_ble_eq_true rfl) ?_
  refine b_aload_n 0 dX4_init_4 rfl ?_
  refine b_bipush (v := 98) dX4_init_5 (by decide) ?_
  refine b_newa 0 98 dX4_init_7 ac_I rfl rfl rfl (by decide) (by decide) (by decide) (by decide) (by decide) (fun q1 => ?_)
  refine b_ws [(a, .inr (4, [.null, .null, .null, .int (0), .null, .null, .null, .null, .null, .int (0), .int (0), .int (0), .int (0), .int (0), .int (0)])), (q1, .inl (ca 0, 98, .inl (fun _ => 0)))] rfl ?_
  refine b_putF 0 rfl dX4_init_9 fl_X4_9 fpf_X4_0 rfl rfl rfl (Nat.le_of_ble_eq_true rfl) ?_
  refine b_ws [(a, .inr (4, [.ref (q1), .null, .null, .int (0), .null, .null, .null, .null, .null, .int (0), .int (0), .int (0), .int (0), .int (0), .int (0)])), (q1, .inl (ca 0, 98, .inl (fun _ => 0)))] rfl ?_
  refine b_aload_n 0 dX4_init_12 rfl ?_
  refine b_bipush (v := 98) dX4_init_13 (by decide) ?_
  refine b_newa 0 98 dX4_init_15 ac_I rfl rfl rfl (by decide) (by decide) (by decide) (by decide) (by decide) (fun q2 => ?_)
  refine b_ws [(a, .inr (4, [.ref (q1), .null, .null, .int (0), .null, .null, .null, .null, .null, .int (0), .int (0), .int (0), .int (0), .int (0), .int (0)])), (q1, .inl (ca 0, 98, .inl (fun _ => 0))), (q2, .inl (ca 0, 98, .inl (fun _ => 0)))] rfl ?_
  refine b_putF 0 rfl dX4_init_17 fl_X4_13 fpf_X4_1 rfl rfl rfl (Nat.le_of_ble_eq_true rfl) ?_
  refine b_ws [(a, .inr (4, [.ref (q1), .ref (q2), .null, .int (0), .null, .null, .null, .null, .null, .int (0), .int (0), .int (0), .int (0), .int (0), .int (0)])), (q1, .inl (ca 0, 98, .inl (fun _ => 0))), (q2, .inl (ca 0, 98, .inl (fun _ => 0)))] rfl ?_
  refine b_aload_n 0 dX4_init_20 rfl ?_
  refine b_bipush (v := 98) dX4_init_21 (by decide) ?_
  refine b_newa 0 98 dX4_init_23 ac_I rfl rfl rfl (by decide) (by decide) (by decide) (by decide) (by decide) (fun q3 => ?_)
  refine b_ws [(a, .inr (4, [.ref (q1), .ref (q2), .null, .int (0), .null, .null, .null, .null, .null, .int (0), .int (0), .int (0), .int (0), .int (0), .int (0)])), (q1, .inl (ca 0, 98, .inl (fun _ => 0))), (q2, .inl (ca 0, 98, .inl (fun _ => 0))), (q3, .inl (ca 0, 98, .inl (fun _ => 0)))] rfl ?_
  refine b_putF 0 rfl dX4_init_25 fl_X4_16 fpf_X4_2 rfl rfl rfl (Nat.le_of_ble_eq_true rfl) ?_
  refine b_ws [(a, .inr (4, [.ref (q1), .ref (q2), .ref (q3), .int (0), .null, .null, .null, .null, .null, .int (0), .int (0), .int (0), .int (0), .int (0), .int (0)])), (q1, .inl (ca 0, 98, .inl (fun _ => 0))), (q2, .inl (ca 0, 98, .inl (fun _ => 0))), (q3, .inl (ca 0, 98, .inl (fun _ => 0)))] rfl ?_
  refine b_aload_n 0 dX4_init_28 rfl ?_
  refine b_bipush (v := 7) dX4_init_29 (by decide) ?_
  refine b_newa 0 7 dX4_init_31 ac_I rfl rfl rfl (by decide) (by decide) (by decide) (by decide) (by decide) (fun q4 => ?_)
  refine b_ws [(a, .inr (4, [.ref (q1), .ref (q2), .ref (q3), .int (0), .null, .null, .null, .null, .null, .int (0), .int (0), .int (0), .int (0), .int (0), .int (0)])), (q1, .inl (ca 0, 98, .inl (fun _ => 0))), (q2, .inl (ca 0, 98, .inl (fun _ => 0))), (q3, .inl (ca 0, 98, .inl (fun _ => 0))), (q4, .inl (ca 0, 7, .inl (fun _ => 0)))] rfl ?_
  refine b_putF 0 rfl dX4_init_33 fl_X4_19 fpf_X4_4 rfl rfl rfl (Nat.le_of_ble_eq_true rfl) ?_
  refine b_ws [(a, .inr (4, [.ref (q1), .ref (q2), .ref (q3), .int (0), .ref (q4), .null, .null, .null, .null, .int (0), .int (0), .int (0), .int (0), .int (0), .int (0)])), (q1, .inl (ca 0, 98, .inl (fun _ => 0))), (q2, .inl (ca 0, 98, .inl (fun _ => 0))), (q3, .inl (ca 0, 98, .inl (fun _ => 0))), (q4, .inl (ca 0, 7, .inl (fun _ => 0)))] rfl ?_
  refine b_aload_n 0 dX4_init_36 rfl ?_
  refine b_iconst (v := 4) dX4_init_37 (by decide) ?_
  refine b_newa 0 4 dX4_init_38 ac_I rfl rfl rfl (by decide) (by decide) (by decide) (by decide) (by decide) (fun q5 => ?_)
  refine b_ws [(a, .inr (4, [.ref (q1), .ref (q2), .ref (q3), .int (0), .ref (q4), .null, .null, .null, .null, .int (0), .int (0), .int (0), .int (0), .int (0), .int (0)])), (q1, .inl (ca 0, 98, .inl (fun _ => 0))), (q2, .inl (ca 0, 98, .inl (fun _ => 0))), (q3, .inl (ca 0, 98, .inl (fun _ => 0))), (q4, .inl (ca 0, 7, .inl (fun _ => 0))), (q5, .inl (ca 0, 4, .inl (fun _ => 0)))] rfl ?_
  refine b_putF 0 rfl dX4_init_40 fl_X4_22 fpf_X4_5 rfl rfl rfl (Nat.le_of_ble_eq_true rfl) ?_
  refine b_ws [(a, .inr (4, [.ref (q1), .ref (q2), .ref (q3), .int (0), .ref (q4), .ref (q5), .null, .null, .null, .int (0), .int (0), .int (0), .int (0), .int (0), .int (0)])), (q1, .inl (ca 0, 98, .inl (fun _ => 0))), (q2, .inl (ca 0, 98, .inl (fun _ => 0))), (q3, .inl (ca 0, 98, .inl (fun _ => 0))), (q4, .inl (ca 0, 7, .inl (fun _ => 0))), (q5, .inl (ca 0, 4, .inl (fun _ => 0)))] rfl ?_
  refine b_aload_n 0 dX4_init_43 rfl ?_
  refine b_iconst (v := 4) dX4_init_44 (by decide) ?_
  refine b_newa 0 4 dX4_init_45 ac_I rfl rfl rfl (by decide) (by decide) (by decide) (by decide) (by decide) (fun q6 => ?_)
  refine b_ws [(a, .inr (4, [.ref (q1), .ref (q2), .ref (q3), .int (0), .ref (q4), .ref (q5), .null, .null, .null, .int (0), .int (0), .int (0), .int (0), .int (0), .int (0)])), (q1, .inl (ca 0, 98, .inl (fun _ => 0))), (q2, .inl (ca 0, 98, .inl (fun _ => 0))), (q3, .inl (ca 0, 98, .inl (fun _ => 0))), (q4, .inl (ca 0, 7, .inl (fun _ => 0))), (q5, .inl (ca 0, 4, .inl (fun _ => 0))), (q6, .inl (ca 0, 4, .inl (fun _ => 0)))] rfl ?_
  refine b_putF 0 rfl dX4_init_47 fl_X4_25 fpf_X4_6 rfl rfl rfl (Nat.le_of_ble_eq_true rfl) ?_
  refine b_ws [(a, .inr (4, [.ref (q1), .ref (q2), .ref (q3), .int (0), .ref (q4), .ref (q5), .ref (q6), .null, .null, .int (0), .int (0), .int (0), .int (0), .int (0), .int (0)])), (q1, .inl (ca 0, 98, .inl (fun _ => 0))), (q2, .inl (ca 0, 98, .inl (fun _ => 0))), (q3, .inl (ca 0, 98, .inl (fun _ => 0))), (q4, .inl (ca 0, 7, .inl (fun _ => 0))), (q5, .inl (ca 0, 4, .inl (fun _ => 0))), (q6, .inl (ca 0, 4, .inl (fun _ => 0)))] rfl ?_
  refine b_aload_n 0 dX4_init_50 rfl ?_
  refine b_sipush (v := 160) dX4_init_51 (by decide) ?_
  refine b_newa 0 160 dX4_init_54 ac_I rfl rfl rfl (by decide) (by decide) (by decide) (by decide) (by decide) (fun q7 => ?_)
  refine b_ws [(a, .inr (4, [.ref (q1), .ref (q2), .ref (q3), .int (0), .ref (q4), .ref (q5), .ref (q6), .null, .null, .int (0), .int (0), .int (0), .int (0), .int (0), .int (0)])), (q1, .inl (ca 0, 98, .inl (fun _ => 0))), (q2, .inl (ca 0, 98, .inl (fun _ => 0))), (q3, .inl (ca 0, 98, .inl (fun _ => 0))), (q4, .inl (ca 0, 7, .inl (fun _ => 0))), (q5, .inl (ca 0, 4, .inl (fun _ => 0))), (q6, .inl (ca 0, 4, .inl (fun _ => 0))), (q7, .inl (ca 0, 160, .inl (fun _ => 0)))] rfl ?_
  refine b_putF 0 rfl dX4_init_56 fl_X4_28 fpf_X4_7 rfl rfl rfl (Nat.le_of_ble_eq_true rfl) ?_
  refine b_ws [(a, .inr (4, [.ref (q1), .ref (q2), .ref (q3), .int (0), .ref (q4), .ref (q5), .ref (q6), .ref (q7), .null, .int (0), .int (0), .int (0), .int (0), .int (0), .int (0)])), (q1, .inl (ca 0, 98, .inl (fun _ => 0))), (q2, .inl (ca 0, 98, .inl (fun _ => 0))), (q3, .inl (ca 0, 98, .inl (fun _ => 0))), (q4, .inl (ca 0, 7, .inl (fun _ => 0))), (q5, .inl (ca 0, 4, .inl (fun _ => 0))), (q6, .inl (ca 0, 4, .inl (fun _ => 0))), (q7, .inl (ca 0, 160, .inl (fun _ => 0)))] rfl ?_
  refine b_aload_n 0 dX4_init_59 rfl ?_
  refine b_bipush (v := 120) dX4_init_60 (by decide) ?_
  refine b_newa 0 120 dX4_init_62 ac_I rfl rfl rfl (by decide) (by decide) (by decide) (by decide) (by decide) (fun q8 => ?_)
  refine b_ws [(a, .inr (4, [.ref (q1), .ref (q2), .ref (q3), .int (0), .ref (q4), .ref (q5), .ref (q6), .ref (q7), .null, .int (0), .int (0), .int (0), .int (0), .int (0), .int (0)])), (q1, .inl (ca 0, 98, .inl (fun _ => 0))), (q2, .inl (ca 0, 98, .inl (fun _ => 0))), (q3, .inl (ca 0, 98, .inl (fun _ => 0))), (q4, .inl (ca 0, 7, .inl (fun _ => 0))), (q5, .inl (ca 0, 4, .inl (fun _ => 0))), (q6, .inl (ca 0, 4, .inl (fun _ => 0))), (q7, .inl (ca 0, 160, .inl (fun _ => 0))), (q8, .inl (ca 0, 120, .inl (fun _ => 0)))] rfl ?_
  refine b_putF 0 rfl dX4_init_64 fl_X4_31 fpf_X4_8 rfl rfl rfl (Nat.le_of_ble_eq_true rfl) ?_
  refine b_ws [(a, .inr (4, [.ref (q1), .ref (q2), .ref (q3), .int (0), .ref (q4), .ref (q5), .ref (q6), .ref (q7), .ref (q8), .int (0), .int (0), .int (0), .int (0), .int (0), .int (0)])), (q1, .inl (ca 0, 98, .inl (fun _ => 0))), (q2, .inl (ca 0, 98, .inl (fun _ => 0))), (q3, .inl (ca 0, 98, .inl (fun _ => 0))), (q4, .inl (ca 0, 7, .inl (fun _ => 0))), (q5, .inl (ca 0, 4, .inl (fun _ => 0))), (q6, .inl (ca 0, 4, .inl (fun _ => 0))), (q7, .inl (ca 0, 160, .inl (fun _ => 0))), (q8, .inl (ca 0, 120, .inl (fun _ => 0)))] rfl ?_
  refine b_aload_n 0 dX4_init_67 rfl ?_
  refine b_get 0 dX4_init_68 fl_X4_9 rfl rfl ?_
  refine b_iconst (v := 1) dX4_init_71 (by decide) ?_
  refine b_iconst (v := 1) dX4_init_72 (by decide) ?_
  refine b_iast (j := 1) 1 dX4_init_73 rfl (by decide) (by decide) (by decide) ?_
  refine b_ws [(a, .inr (4, [.ref (q1), .ref (q2), .ref (q3), .int (0), .ref (q4), .ref (q5), .ref (q6), .ref (q7), .ref (q8), .int (0), .int (0), .int (0), .int (0), .int (0), .int (0)])), (q1, .inl (ca 0, 98, .inl (mC 0))), (q2, .inl (ca 0, 98, .inl (fun _ => 0))), (q3, .inl (ca 0, 98, .inl (fun _ => 0))), (q4, .inl (ca 0, 7, .inl (fun _ => 0))), (q5, .inl (ca 0, 4, .inl (fun _ => 0))), (q6, .inl (ca 0, 4, .inl (fun _ => 0))), (q7, .inl (ca 0, 160, .inl (fun _ => 0))), (q8, .inl (ca 0, 120, .inl (fun _ => 0)))] rfl ?_
  refine b_bipush (v := 88) dX4_init_74 (by decide) ?_
  refine b_istore_n [(1, .int (88)), (0, .ref (a))] dX4_init_76 (by decide) rfl ?_
  refine b_iload_n 0 dX4_init_77 rfl ?_
  refine b_bipush (v := 98) dX4_init_78 (by decide) ?_
  refine b_ge_f 96 dX4_init_80 (by decide) (by decide) ?_
  refine b_aload_n 1 dX4_init_83 rfl ?_
  refine b_get 0 dX4_init_84 fl_X4_9 rfl rfl ?_
  refine b_iload_n 0 dX4_init_87 rfl ?_
  refine b_iconst (v := -1) dX4_init_88 (by decide) ?_
  refine b_iast (j := 88) 1 dX4_init_89 rfl (by decide) (by decide) (by decide) ?_
  refine b_ws [(a, .inr (4, [.ref (q1), .ref (q2), .ref (q3), .int (0), .ref (q4), .ref (q5), .ref (q6), .ref (q7), .ref (q8), .int (0), .int (0), .int (0), .int (0), .int (0), .int (0)])), (q1, .inl (ca 0, 98, .inl (mC 1))), (q2, .inl (ca 0, 98, .inl (fun _ => 0))), (q3, .inl (ca 0, 98, .inl (fun _ => 0))), (q4, .inl (ca 0, 7, .inl (fun _ => 0))), (q5, .inl (ca 0, 4, .inl (fun _ => 0))), (q6, .inl (ca 0, 4, .inl (fun _ => 0))), (q7, .inl (ca 0, 160, .inl (fun _ => 0))), (q8, .inl (ca 0, 120, .inl (fun _ => 0)))] rfl ?_
  refine b_iinc (j := 0) (v := 89) [(1, .int (89)), (0, .ref (a))] dX4_init_90 rfl (by decide) (by decide) rfl ?_
  refine b_goto 77 dX4_init_93 (by decide) ?_
  refine b_iload_n 0 dX4_init_77 rfl ?_
  refine b_bipush (v := 98) dX4_init_78 (by decide) ?_
  refine b_ge_f 96 dX4_init_80 (by decide) (by decide) ?_
  refine b_aload_n 1 dX4_init_83 rfl ?_
  refine b_get 0 dX4_init_84 fl_X4_9 rfl rfl ?_
  refine b_iload_n 0 dX4_init_87 rfl ?_
  refine b_iconst (v := -1) dX4_init_88 (by decide) ?_
  refine b_iast (j := 89) 1 dX4_init_89 rfl (by decide) (by decide) (by decide) ?_
  refine b_ws [(a, .inr (4, [.ref (q1), .ref (q2), .ref (q3), .int (0), .ref (q4), .ref (q5), .ref (q6), .ref (q7), .ref (q8), .int (0), .int (0), .int (0), .int (0), .int (0), .int (0)])), (q1, .inl (ca 0, 98, .inl (mC 2))), (q2, .inl (ca 0, 98, .inl (fun _ => 0))), (q3, .inl (ca 0, 98, .inl (fun _ => 0))), (q4, .inl (ca 0, 7, .inl (fun _ => 0))), (q5, .inl (ca 0, 4, .inl (fun _ => 0))), (q6, .inl (ca 0, 4, .inl (fun _ => 0))), (q7, .inl (ca 0, 160, .inl (fun _ => 0))), (q8, .inl (ca 0, 120, .inl (fun _ => 0)))] rfl ?_
  refine b_iinc (j := 0) (v := 90) [(1, .int (90)), (0, .ref (a))] dX4_init_90 rfl (by decide) (by decide) rfl ?_
  refine b_goto 77 dX4_init_93 (by decide) ?_
  refine b_iload_n 0 dX4_init_77 rfl ?_
  refine b_bipush (v := 98) dX4_init_78 (by decide) ?_
  refine b_ge_f 96 dX4_init_80 (by decide) (by decide) ?_
  refine b_aload_n 1 dX4_init_83 rfl ?_
  refine b_get 0 dX4_init_84 fl_X4_9 rfl rfl ?_
  refine b_iload_n 0 dX4_init_87 rfl ?_
  refine b_iconst (v := -1) dX4_init_88 (by decide) ?_
  refine b_iast (j := 90) 1 dX4_init_89 rfl (by decide) (by decide) (by decide) ?_
  refine b_ws [(a, .inr (4, [.ref (q1), .ref (q2), .ref (q3), .int (0), .ref (q4), .ref (q5), .ref (q6), .ref (q7), .ref (q8), .int (0), .int (0), .int (0), .int (0), .int (0), .int (0)])), (q1, .inl (ca 0, 98, .inl (mC 3))), (q2, .inl (ca 0, 98, .inl (fun _ => 0))), (q3, .inl (ca 0, 98, .inl (fun _ => 0))), (q4, .inl (ca 0, 7, .inl (fun _ => 0))), (q5, .inl (ca 0, 4, .inl (fun _ => 0))), (q6, .inl (ca 0, 4, .inl (fun _ => 0))), (q7, .inl (ca 0, 160, .inl (fun _ => 0))), (q8, .inl (ca 0, 120, .inl (fun _ => 0)))] rfl ?_
  refine b_iinc (j := 0) (v := 91) [(1, .int (91)), (0, .ref (a))] dX4_init_90 rfl (by decide) (by decide) rfl ?_
  refine b_goto 77 dX4_init_93 (by decide) ?_
  refine b_iload_n 0 dX4_init_77 rfl ?_
  refine b_bipush (v := 98) dX4_init_78 (by decide) ?_
  refine b_ge_f 96 dX4_init_80 (by decide) (by decide) ?_
  refine b_aload_n 1 dX4_init_83 rfl ?_
  refine b_get 0 dX4_init_84 fl_X4_9 rfl rfl ?_
  refine b_iload_n 0 dX4_init_87 rfl ?_
  refine b_iconst (v := -1) dX4_init_88 (by decide) ?_
  refine b_iast (j := 91) 1 dX4_init_89 rfl (by decide) (by decide) (by decide) ?_
  refine b_ws [(a, .inr (4, [.ref (q1), .ref (q2), .ref (q3), .int (0), .ref (q4), .ref (q5), .ref (q6), .ref (q7), .ref (q8), .int (0), .int (0), .int (0), .int (0), .int (0), .int (0)])), (q1, .inl (ca 0, 98, .inl (mC 4))), (q2, .inl (ca 0, 98, .inl (fun _ => 0))), (q3, .inl (ca 0, 98, .inl (fun _ => 0))), (q4, .inl (ca 0, 7, .inl (fun _ => 0))), (q5, .inl (ca 0, 4, .inl (fun _ => 0))), (q6, .inl (ca 0, 4, .inl (fun _ => 0))), (q7, .inl (ca 0, 160, .inl (fun _ => 0))), (q8, .inl (ca 0, 120, .inl (fun _ => 0)))] rfl ?_
  refine b_iinc (j := 0) (v := 92) [(1, .int (92)), (0, .ref (a))] dX4_init_90 rfl (by decide) (by decide) rfl ?_
  refine b_goto 77 dX4_init_93 (by decide) ?_
  refine b_iload_n 0 dX4_init_77 rfl ?_
  refine b_bipush (v := 98) dX4_init_78 (by decide) ?_
  refine b_ge_f 96 dX4_init_80 (by decide) (by decide) ?_
  refine b_aload_n 1 dX4_init_83 rfl ?_
  refine b_get 0 dX4_init_84 fl_X4_9 rfl rfl ?_
  refine b_iload_n 0 dX4_init_87 rfl ?_
  refine b_iconst (v := -1) dX4_init_88 (by decide) ?_
  refine b_iast (j := 92) 1 dX4_init_89 rfl (by decide) (by decide) (by decide) ?_
  refine b_ws [(a, .inr (4, [.ref (q1), .ref (q2), .ref (q3), .int (0), .ref (q4), .ref (q5), .ref (q6), .ref (q7), .ref (q8), .int (0), .int (0), .int (0), .int (0), .int (0), .int (0)])), (q1, .inl (ca 0, 98, .inl (mC 5))), (q2, .inl (ca 0, 98, .inl (fun _ => 0))), (q3, .inl (ca 0, 98, .inl (fun _ => 0))), (q4, .inl (ca 0, 7, .inl (fun _ => 0))), (q5, .inl (ca 0, 4, .inl (fun _ => 0))), (q6, .inl (ca 0, 4, .inl (fun _ => 0))), (q7, .inl (ca 0, 160, .inl (fun _ => 0))), (q8, .inl (ca 0, 120, .inl (fun _ => 0)))] rfl ?_
  refine b_iinc (j := 0) (v := 93) [(1, .int (93)), (0, .ref (a))] dX4_init_90 rfl (by decide) (by decide) rfl ?_
  refine b_goto 77 dX4_init_93 (by decide) ?_
  refine b_iload_n 0 dX4_init_77 rfl ?_
  refine b_bipush (v := 98) dX4_init_78 (by decide) ?_
  refine b_ge_f 96 dX4_init_80 (by decide) (by decide) ?_
  refine b_aload_n 1 dX4_init_83 rfl ?_
  refine b_get 0 dX4_init_84 fl_X4_9 rfl rfl ?_
  refine b_iload_n 0 dX4_init_87 rfl ?_
  refine b_iconst (v := -1) dX4_init_88 (by decide) ?_
  refine b_iast (j := 93) 1 dX4_init_89 rfl (by decide) (by decide) (by decide) ?_
  refine b_ws [(a, .inr (4, [.ref (q1), .ref (q2), .ref (q3), .int (0), .ref (q4), .ref (q5), .ref (q6), .ref (q7), .ref (q8), .int (0), .int (0), .int (0), .int (0), .int (0), .int (0)])), (q1, .inl (ca 0, 98, .inl (mC 6))), (q2, .inl (ca 0, 98, .inl (fun _ => 0))), (q3, .inl (ca 0, 98, .inl (fun _ => 0))), (q4, .inl (ca 0, 7, .inl (fun _ => 0))), (q5, .inl (ca 0, 4, .inl (fun _ => 0))), (q6, .inl (ca 0, 4, .inl (fun _ => 0))), (q7, .inl (ca 0, 160, .inl (fun _ => 0))), (q8, .inl (ca 0, 120, .inl (fun _ => 0)))] rfl ?_
  refine b_iinc (j := 0) (v := 94) [(1, .int (94)), (0, .ref (a))] dX4_init_90 rfl (by decide) (by decide) rfl ?_
  refine b_goto 77 dX4_init_93 (by decide) ?_
  refine b_iload_n 0 dX4_init_77 rfl ?_
  refine b_bipush (v := 98) dX4_init_78 (by decide) ?_
  refine b_ge_f 96 dX4_init_80 (by decide) (by decide) ?_
  refine b_aload_n 1 dX4_init_83 rfl ?_
  refine b_get 0 dX4_init_84 fl_X4_9 rfl rfl ?_
  refine b_iload_n 0 dX4_init_87 rfl ?_
  refine b_iconst (v := -1) dX4_init_88 (by decide) ?_
  refine b_iast (j := 94) 1 dX4_init_89 rfl (by decide) (by decide) (by decide) ?_
  refine b_ws [(a, .inr (4, [.ref (q1), .ref (q2), .ref (q3), .int (0), .ref (q4), .ref (q5), .ref (q6), .ref (q7), .ref (q8), .int (0), .int (0), .int (0), .int (0), .int (0), .int (0)])), (q1, .inl (ca 0, 98, .inl (mC 7))), (q2, .inl (ca 0, 98, .inl (fun _ => 0))), (q3, .inl (ca 0, 98, .inl (fun _ => 0))), (q4, .inl (ca 0, 7, .inl (fun _ => 0))), (q5, .inl (ca 0, 4, .inl (fun _ => 0))), (q6, .inl (ca 0, 4, .inl (fun _ => 0))), (q7, .inl (ca 0, 160, .inl (fun _ => 0))), (q8, .inl (ca 0, 120, .inl (fun _ => 0)))] rfl ?_
  refine b_iinc (j := 0) (v := 95) [(1, .int (95)), (0, .ref (a))] dX4_init_90 rfl (by decide) (by decide) rfl ?_
  refine b_goto 77 dX4_init_93 (by decide) ?_
  refine b_iload_n 0 dX4_init_77 rfl ?_
  refine b_bipush (v := 98) dX4_init_78 (by decide) ?_
  refine b_ge_f 96 dX4_init_80 (by decide) (by decide) ?_
  refine b_aload_n 1 dX4_init_83 rfl ?_
  refine b_get 0 dX4_init_84 fl_X4_9 rfl rfl ?_
  refine b_iload_n 0 dX4_init_87 rfl ?_
  refine b_iconst (v := -1) dX4_init_88 (by decide) ?_
  refine b_iast (j := 95) 1 dX4_init_89 rfl (by decide) (by decide) (by decide) ?_
  refine b_ws [(a, .inr (4, [.ref (q1), .ref (q2), .ref (q3), .int (0), .ref (q4), .ref (q5), .ref (q6), .ref (q7), .ref (q8), .int (0), .int (0), .int (0), .int (0), .int (0), .int (0)])), (q1, .inl (ca 0, 98, .inl (mC 8))), (q2, .inl (ca 0, 98, .inl (fun _ => 0))), (q3, .inl (ca 0, 98, .inl (fun _ => 0))), (q4, .inl (ca 0, 7, .inl (fun _ => 0))), (q5, .inl (ca 0, 4, .inl (fun _ => 0))), (q6, .inl (ca 0, 4, .inl (fun _ => 0))), (q7, .inl (ca 0, 160, .inl (fun _ => 0))), (q8, .inl (ca 0, 120, .inl (fun _ => 0)))] rfl ?_
  refine b_iinc (j := 0) (v := 96) [(1, .int (96)), (0, .ref (a))] dX4_init_90 rfl (by decide) (by decide) rfl ?_
  refine b_goto 77 dX4_init_93 (by decide) ?_
  refine b_iload_n 0 dX4_init_77 rfl ?_
  refine b_bipush (v := 98) dX4_init_78 (by decide) ?_
  refine b_ge_f 96 dX4_init_80 (by decide) (by decide) ?_
  refine b_aload_n 1 dX4_init_83 rfl ?_
  refine b_get 0 dX4_init_84 fl_X4_9 rfl rfl ?_
  refine b_iload_n 0 dX4_init_87 rfl ?_
  refine b_iconst (v := -1) dX4_init_88 (by decide) ?_
  refine b_iast (j := 96) 1 dX4_init_89 rfl (by decide) (by decide) (by decide) ?_
  refine b_ws [(a, .inr (4, [.ref (q1), .ref (q2), .ref (q3), .int (0), .ref (q4), .ref (q5), .ref (q6), .ref (q7), .ref (q8), .int (0), .int (0), .int (0), .int (0), .int (0), .int (0)])), (q1, .inl (ca 0, 98, .inl (mC 9))), (q2, .inl (ca 0, 98, .inl (fun _ => 0))), (q3, .inl (ca 0, 98, .inl (fun _ => 0))), (q4, .inl (ca 0, 7, .inl (fun _ => 0))), (q5, .inl (ca 0, 4, .inl (fun _ => 0))), (q6, .inl (ca 0, 4, .inl (fun _ => 0))), (q7, .inl (ca 0, 160, .inl (fun _ => 0))), (q8, .inl (ca 0, 120, .inl (fun _ => 0)))] rfl ?_
  refine b_iinc (j := 0) (v := 97) [(1, .int (97)), (0, .ref (a))] dX4_init_90 rfl (by decide) (by decide) rfl ?_
  refine b_goto 77 dX4_init_93 (by decide) ?_
  refine b_iload_n 0 dX4_init_77 rfl ?_
  refine b_bipush (v := 98) dX4_init_78 (by decide) ?_
  refine b_ge_f 96 dX4_init_80 (by decide) (by decide) ?_
  refine b_aload_n 1 dX4_init_83 rfl ?_
  refine b_get 0 dX4_init_84 fl_X4_9 rfl rfl ?_
  refine b_iload_n 0 dX4_init_87 rfl ?_
  refine b_iconst (v := -1) dX4_init_88 (by decide) ?_
  refine b_iast (j := 97) 1 dX4_init_89 rfl (by decide) (by decide) (by decide) ?_
  refine b_ws [(a, .inr (4, [.ref (q1), .ref (q2), .ref (q3), .int (0), .ref (q4), .ref (q5), .ref (q6), .ref (q7), .ref (q8), .int (0), .int (0), .int (0), .int (0), .int (0), .int (0)])), (q1, .inl (ca 0, 98, .inl (mC 10))), (q2, .inl (ca 0, 98, .inl (fun _ => 0))), (q3, .inl (ca 0, 98, .inl (fun _ => 0))), (q4, .inl (ca 0, 7, .inl (fun _ => 0))), (q5, .inl (ca 0, 4, .inl (fun _ => 0))), (q6, .inl (ca 0, 4, .inl (fun _ => 0))), (q7, .inl (ca 0, 160, .inl (fun _ => 0))), (q8, .inl (ca 0, 120, .inl (fun _ => 0)))] rfl ?_
  refine b_iinc (j := 0) (v := 98) [(1, .int (98)), (0, .ref (a))] dX4_init_90 rfl (by decide) (by decide) rfl ?_
  refine b_goto 77 dX4_init_93 (by decide) ?_
  refine b_iload_n 0 dX4_init_77 rfl ?_
  refine b_bipush (v := 98) dX4_init_78 (by decide) ?_
  refine b_ge_t 96 dX4_init_80 (by decide) (by decide) ?_
  exact b_end ⟨rfl, dX4_init_96, Nat.le_of_ble_eq_true rfl, Nat.le_of_ble_eq_true rfl, (fun i => [0, q1, q2, q3, q4, q5, q6, q7, q8].getD i 0), rfl⟩
