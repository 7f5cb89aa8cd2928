def stp (p : Nat → Bool) (n : Nat) : Nat := match fst1 p 0 n with | some k => k | none => n
/-- the numbers of a sheet, the first k of them, become bents -/
def ldR (m sh : Rw) (s : Nat) : Nat → Rw
  | 0 => m
  | k + 1 => pG (ldR m sh s k) k 0 (sN sh s k)
def p_load (sh : Rw) (s k : Nat) : Bool := !inB (sN sh s k) 0 99
def mn2 (a b : Nat) : Nat := if b < a then b else a
def f_load (m sh : Rw) (s : Int32) : Oc := onS sh s (.inr (nI (stp (p_load sh (tn s)) (mn2 (nL2 sh (tn s)) (nG m))), ldR m sh (tn s) (stp (p_load sh (tn s)) (mn2 (nL2 sh (tn s)) (nG m)))))
theorem mn_nI {a b : Nat} (ha : a < 2 ^ 31) (hb : b < 2 ^ 31) : (if nI b < nI a then nI b else nI a) = nI (mn2 a b) := by
  unfold mn2
  by_cases c : b < a
  · rw [if_pos (nI_lt c ha), if_pos c]
  · rw [if_neg (nI_nlt (by omega) hb), if_neg c]
def p_judge (m sh : Rw) (s k : Nat) : Bool := !isG m (nI k) || !decide (gF m k 1 = sN sh s k)
def f_judge (m sh : Rw) (s : Int32) : Oc := onS sh s (.inr ((match fst1 (p_judge m sh (tn s)) 0 (nL2 sh (tn s)) with | some k => 1 + nI k | none => 0), m))
set_option maxRecDepth 100000 in
set_option maxHeartbeats 4000000 in
theorem l_X3_load {X : Sc} {h : Hp} {j M : Nat} (hj : j ≤ 3) (hM : M ≤ 6) (hM2 : M ≤ 40) : ∀ k, k ≤ M → fst1 (p_load (h 6) j) 0 M = fst1 (p_load (h 6) j) k (M - k) → Go X RX3 cX3_load 6 3 39 [.ref 0, .int (nI j), .int 0, .int (nI M), .int (nI k), .null] [] (setg h 1 (ldR (h 1) (h 6) j k)) (some (.int (nI (stp (p_load (h 6) j) M)))) (setg h 1 (ldR (h 1) (h 6) j (stp (p_load (h 6) j) M))) := by
  refine loop_up (M) ?_ ?_
  · intro hy
    refine g_iload dX3_load_39 rfl ?_
    refine g_iload_n dX3_load_41 rfl ?_
    refine g_icmp_ge 88 dX3_load_42 (by decide) (fun c42 => ?_) (fun c42 => ?_)
    · refine g_iload_n dX3_load_88 rfl ?_
      exact g_ireturn dX3_load_89 (by rw [stp, hy, fst_0]) (by rw [stp, hy, fst_0])
    · exact (lp_yes ((rfl : nI M = nI M)) (by omega) c42).elim
  · intro k hk ih hy
    refine g_iload dX3_load_39 rfl ?_
    refine g_iload_n dX3_load_41 rfl ?_
    refine g_icmp_ge 88 dX3_load_42 (by decide) (fun c42 => ?_) (fun c42 => ?_)
    · exact (lp_no ((rfl : nI M = nI M)) (by omega) hk c42).elim
    · refine g_aload_n dX3_load_45 rfl ?_
      refine g_getR dX3_load_46 fl_X3_31 rfl rfl ?_
      refine g_iload_n dX3_load_49 rfl ?_
      refine g_aald j dX3_load_50 rfl (by omega) ?_
      refine g_getR dX3_load_51 fl_X3_256 (sheetAt (by omega)).1 rfl ?_
      refine g_iload dX3_load_54 rfl ?_
      refine g_iald k dX3_load_56 (sheetAt (by omega)).2 rfl (by omega) ?_
      refine g_st (st2 := [.int (sN (h 6) j k)]) (by rw [setg_n _ _ (by decide)]; rfl) ?_
      refine g_istore dX3_load_57 (by decide) rfl ?_
      refine g_iload dX3_load_59 rfl ?_
      refine g_callS1i (c_X3_isBent) mi_X3_isBent ms_X3_isBent ml_X3_79 dX3_load_61 (by decide) (Nat.le_of_ble_eq_true rfl) (Nat.le_of_ble_eq_true rfl) ?_
      refine g_if_ne 70 dX3_load_64 (by decide) (fun c64 => ?_) (fun c64 => ?_)
      · refine g_aload_n dX3_load_70 rfl ?_
        refine g_getR dX3_load_71 fl_X3_12 rfl rfl ?_
        refine g_iload dX3_load_74 rfl ?_
        refine g_iconst dX3_load_76 ic_0 ?_
        refine g_iload dX3_load_77 rfl ?_
        refine g_callV3v (c_X0_putGuestFact (w := 0) inn1 (by omega) (by decide)) mi_X0_putGuestFact mv_X0_putGuestFact ml_X3_113 dX3_load_79 rfl rfl (by decide) (Nat.le_of_ble_eq_true rfl) (Nat.le_of_ble_eq_true rfl) ?_
        refine g_iinc dX3_load_82 rfl (ii_n _) (by decide) rfl ?_
        refine g_goto 39 dX3_load_85 (by decide) ?_
        refine g_mask [true, true, true, true, true, false] ?_
        exact g_h (by rw [setg_s, setg_2]; rfl) (ih (by rw [hy, fst_n (by simp_all [p_load, bI_0]) (by omega)]))
      · refine g_iload dX3_load_67 rfl ?_
        exact g_ireturn dX3_load_69 (by rw [stp, hy, fst_y (by simp_all [p_load, bI_0]) (by omega)]) (by rw [stp, hy, fst_y (by simp_all [p_load, bI_0]) (by omega)])

set_option maxRecDepth 100000 in
set_option maxHeartbeats 4000000 in
theorem c_X3_load {X : Sc} {h : Hp} (hI : In (h 1)) (hS : InS (h 6)) {s : Int32} : Ct X yX3_load cX3_load 6 (some .int) 3 [.ref 0, .int s] h (some (.int (oV (f_load (h 1) (h 6) s)))) (oG 1 5 h (f_load (h 1) (h 6) s)) := by
  refine ⟨rfl, ?_⟩
  refine g_aload_n dX3_load_0 rfl ?_
  refine g_iload_n dX3_load_1 rfl ?_
  refine g_callV1i (c_X3_sheetTrouble) mi_X3_sheetTrouble mv_X3_sheetTrouble ml_X3_193 dX3_load_2 rfl rfl (by decide) (Nat.le_of_ble_eq_true rfl) (Nat.le_of_ble_eq_true rfl) ?_
  refine g_istore_n dX3_load_5 (by decide) rfl ?_
  refine g_iload_n dX3_load_6 rfl ?_
  refine g_if_eq 16 dX3_load_7 (by decide) (fun c7 => ?_) (fun c7 => ?_)
  · have tz := trb_0 c7
    obtain ⟨j, hj, tj, rfl⟩ := inB_of 3 (by decide) tz.1
    refine g_aload_n dX3_load_16 rfl ?_
    refine g_getR dX3_load_17 fl_X3_31 rfl rfl ?_
    refine g_iload_n dX3_load_20 rfl ?_
    refine g_aald j dX3_load_21 rfl (by omega) ?_
    refine g_getI dX3_load_22 fl_X3_242 (sheetAt (by omega)).1 rfl ?_
    refine g_aload_n dX3_load_25 rfl ?_
    refine g_getR dX3_load_26 fl_X3_12 rfl rfl ?_
    refine g_getI dX3_load_29 fl_X3_82 rfl rfl ?_
    refine g_min dX3_load_32 ml_X3_265 mm_minS mm_I mm_minC (by decide) (Nat.le_of_ble_eq_true rfl) ?_
    have hL := hS j (by omega)
    have hG := hI.nG
    refine g_st (st2 := [.int (nI (mn2 (nL2 (h 6) j) (nG (h 1))))]) (by rw [← mn_nI (by omega) (by omega), ← hL.2.2, ← hG.2]; rfl) ?_
    have hM : mn2 (nL2 (h 6) j) (nG (h 1)) ≤ 6 := by unfold mn2; split <;> omega
    have hM2 : mn2 (nL2 (h 6) j) (nG (h 1)) ≤ 40 := by omega
    refine g_istore_n dX3_load_35 (by decide) rfl ?_
    refine g_iconst dX3_load_36 ic_0 ?_
    refine g_istore dX3_load_37 (by decide) rfl ?_
    rw [f_load, onS_ok tz, tj]
    simp only [oV, oG]
    rw [c7]
    exact g_h (setg_id h 1).symm (l_X3_load (by omega) hM hM2 0 (Nat.zero_le _) rfl)
  · refine g_aload_n dX3_load_10 rfl ?_
    refine g_iload_n dX3_load_11 rfl ?_
    refine g_callV1i (c_X3_found (if inB s 0 3 = true then 5 else 0) (by split <;> decide) (trb_k c7)) mi_X3_found mv_X3_found ml_X3_53 dX3_load_12 rfl rfl (by decide) (Nat.le_of_ble_eq_true rfl) (Nat.le_of_ble_eq_true rfl) ?_
    exact g_ireturn dX3_load_15 (by rw [f_load, ← (trb_f c7 _).2]) (by rw [f_load, (trb_f c7 _).1]; rfl)

