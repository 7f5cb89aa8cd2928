set_option maxRecDepth 100000 in
set_option maxHeartbeats 4000000 in
theorem l_X3_judge {X : Sc} {h : Hp} (hI : In (h 1)) (hS : InS (h 6)) {j : Nat} (hj : j ≤ 3) {z : Int32} : ∀ k, k ≤ nL2 (h 6) j → fst1 (p_judge (h 1) (h 6) j) 0 (nL2 (h 6) j) = fst1 (p_judge (h 1) (h 6) j) k (nL2 (h 6) j - k) → Go X RX3 cX3_judge 4 3 18 [.ref 0, .int (nI j), .int z, .int (nI k)] [] h (some (.int (match fst1 (p_judge (h 1) (h 6) j) 0 (nL2 (h 6) j) with | some k => 1 + nI k | none => 0))) h := by
  have hN := (hS j (by omega)).2.1
  refine loop_up (nL2 (h 6) j) ?_ ?_
  · intro hy
    refine g_iload_n dX3_judge_18 rfl ?_
    refine g_aload_n dX3_judge_19 rfl ?_
    refine g_getR dX3_judge_20 fl_X3_31 rfl rfl ?_
    refine g_iload_n dX3_judge_23 rfl ?_
    refine g_aald j dX3_judge_24 rfl (by omega) ?_
    refine g_getI dX3_judge_25 fl_X3_242 (sheetAt (by omega)).1 rfl ?_
    refine g_icmp_ge 75 dX3_judge_28 (by decide) (fun c28 => ?_) (fun c28 => ?_)
    · refine g_iconst dX3_judge_75 ic_0 ?_
      exact g_ireturn dX3_judge_76 (by rw [hy, fst_0]) rfl
    · exact (lp_yes ((hS j (by omega)).2.2) (by omega) c28).elim
  · intro k hk ih hy
    refine g_iload_n dX3_judge_18 rfl ?_
    refine g_aload_n dX3_judge_19 rfl ?_
    refine g_getR dX3_judge_20 fl_X3_31 rfl rfl ?_
    refine g_iload_n dX3_judge_23 rfl ?_
    refine g_aald j dX3_judge_24 rfl (by omega) ?_
    refine g_getI dX3_judge_25 fl_X3_242 (sheetAt (by omega)).1 rfl ?_
    refine g_icmp_ge 75 dX3_judge_28 (by decide) (fun c28 => ?_) (fun c28 => ?_)
    · exact (lp_no ((hS j (by omega)).2.2) (by omega) hk c28).elim
    · refine g_aload_n dX3_judge_31 rfl ?_
      refine g_getR dX3_judge_32 fl_X3_12 rfl rfl ?_
      refine g_iload_n dX3_judge_35 rfl ?_
      refine g_callV1i (c_X0_isGuest inn1) mi_X0_isGuest mv_X0_isGuest ml_X3_101 dX3_judge_36 rfl rfl (by decide) (Nat.le_of_ble_eq_true rfl) (Nat.le_of_ble_eq_true rfl) ?_
      refine g_if_eq 65 dX3_judge_39 (by decide) (fun c39 => ?_) (fun c39 => ?_)
      · refine g_iconst dX3_judge_65 ic_1 ?_
        refine g_iload_n dX3_judge_66 rfl ?_
        refine g_iadd dX3_judge_67 ?_
        exact g_ireturn dX3_judge_68 (by rw [hy, fst_y (by first | (simp_all [p_judge, bI_0]; done) | (simp_all [p_judge, bI_0, sN]; done)) (by omega)]) rfl
      · have k6 : k < 6 := by
          obtain ⟨x, x1, x2, x3⟩ := isG_of hI (nb0 c39)
          have : k = x := (nI_eq (by omega) (by omega)).mp x3
          omega
        refine g_aload_n dX3_judge_42 rfl ?_
        refine g_getR dX3_judge_43 fl_X3_12 rfl rfl ?_
        refine g_iload_n dX3_judge_46 rfl ?_
        refine g_iconst dX3_judge_47 ic_1 ?_
        refine g_callV2i (c_X0_guestFact (w := 1) inn1 k6 (by decide)) mi_X0_guestFact mv_X0_guestFact ml_X3_107 dX3_judge_48 rfl rfl (by decide) (Nat.le_of_ble_eq_true rfl) (Nat.le_of_ble_eq_true rfl) ?_
        refine g_aload_n dX3_judge_51 rfl ?_
        refine g_getR dX3_judge_52 fl_X3_31 rfl rfl ?_
        refine g_iload_n dX3_judge_55 rfl ?_
        refine g_aald j dX3_judge_56 rfl (by omega) ?_
        refine g_getR dX3_judge_57 fl_X3_256 (sheetAt (by omega)).1 rfl ?_
        refine g_iload_n dX3_judge_60 rfl ?_
        refine g_iald k dX3_judge_61 (sheetAt (by omega)).2 rfl (by omega) ?_
        refine g_icmp_eq 69 dX3_judge_62 (by decide) (fun c62 => ?_) (fun c62 => ?_)
        · refine g_iinc dX3_judge_69 rfl (ii_n _) (by decide) rfl ?_
          refine g_goto 18 dX3_judge_72 (by decide) ?_
          exact ih (by rw [hy, fst_n (by simp_all [p_judge, bI_0, sN]) (by omega)])
        · refine g_iconst dX3_judge_65 ic_1 ?_
          refine g_iload_n dX3_judge_66 rfl ?_
          refine g_iadd dX3_judge_67 ?_
          exact g_ireturn dX3_judge_68 (by rw [hy, fst_y (by first | (simp_all [p_judge, bI_0]; done) | (simp_all [p_judge, bI_0, sN]; done)) (by omega)]) rfl

set_option maxRecDepth 100000 in
set_option maxHeartbeats 4000000 in
theorem c_X3_judge {X : Sc} {h : Hp} (hI : In (h 1)) (hS : InS (h 6)) {s : Int32} : Ct X yX3_judge cX3_judge 4 (some .int) 3 [.ref 0, .int s] h (some (.int (oV (f_judge (h 1) (h 6) s)))) (oG 1 5 h (f_judge (h 1) (h 6) s)) := by
  refine ⟨rfl, ?_⟩
  refine g_aload_n dX3_judge_0 rfl ?_
  refine g_iload_n dX3_judge_1 rfl ?_
  refine g_callV1i (c_X3_sheetTrouble) mi_X3_sheetTrouble mv_X3_sheetTrouble ml_X3_193 dX3_judge_2 rfl rfl (by decide) (Nat.le_of_ble_eq_true rfl) (Nat.le_of_ble_eq_true rfl) ?_
  refine g_istore_n dX3_judge_5 (by decide) rfl ?_
  refine g_iload_n dX3_judge_6 rfl ?_
  refine g_if_eq 16 dX3_judge_7 (by decide) (fun c7 => ?_) (fun c7 => ?_)
  · have tz := trb_0 c7
    obtain ⟨j, hj, tj, rfl⟩ := inB_of 3 (by decide) tz.1
    refine g_iconst dX3_judge_16 ic_0 ?_
    refine g_istore_n dX3_judge_17 (by decide) rfl ?_
    rw [f_judge, onS_ok tz, tj]
    simp only [oV, oG]
    rw [setg_id]
    exact l_X3_judge hI hS (by omega) 0 (Nat.zero_le _) rfl
  · refine g_aload_n dX3_judge_10 rfl ?_
    refine g_iload_n dX3_judge_11 rfl ?_
    refine g_callV1i (c_X3_found (if inB s 0 3 = true then 5 else 0) (by split <;> decide) (trb_k c7)) mi_X3_found mv_X3_found ml_X3_53 dX3_judge_12 rfl rfl (by decide) (Nat.le_of_ble_eq_true rfl) (Nat.le_of_ble_eq_true rfl) ?_
    exact g_ireturn dX3_judge_15 (by rw [f_judge, ← (trb_f c7 _).2]) (by rw [f_judge, (trb_f c7 _).1]; rfl)

