/-! THE REFERENCE'S CALLS, sixth part: told towns, copies -/
set_option maxRecDepth 100000 in
set_option maxHeartbeats 4000000 in
theorem e_X4_isTold {X : Sc} {h : Hp} (hS : InS (h 16)) {j k : Nat} (hj : j ≤ 3) {e : Int32} : Go X RX4 cX4_isTold 6 5 5 [.ref 28, .int (nI j), .int e, .int 0, .int (nI k), .null] [] h (some (.int 0)) (setg h 11 (h 13)) := by
  refine g_iload dX4_isTold_5 rfl ?_
  refine g_aload_n dX4_isTold_7 rfl ?_
  refine g_getR dX4_isTold_8 fl_X4_25 rfl rfl ?_
  refine g_iload_n dX4_isTold_11 rfl ?_
  refine g_iald j dX4_isTold_12 rfl rfl (by omega) ?_
  refine g_icmp_ge 67 dX4_isTold_13 (by decide) (fun c13 => ?_) (fun c13 => ?_)
  · refine g_aload_n dX4_isTold_67 rfl ?_
    refine g_callV0v (c_X4_putsBack) mi_X4_putsBack mv_X4_putsBack ml_X4_147 dX4_isTold_68 rfl rfl (by decide) (Nat.le_of_ble_eq_true rfl) (Nat.le_of_ble_eq_true rfl) ?_
    refine g_iload_n dX4_isTold_71 rfl ?_
    exact g_ireturn dX4_isTold_72 rfl rfl
  · refine g_iload_n dX4_isTold_16 rfl ?_
    refine g_if_eq 67 dX4_isTold_17 (by decide) (fun c17 => ?_) (fun c17 => ?_)
    · refine g_aload_n dX4_isTold_67 rfl ?_
      refine g_callV0v (c_X4_putsBack) mi_X4_putsBack mv_X4_putsBack ml_X4_147 dX4_isTold_68 rfl rfl (by decide) (Nat.le_of_ble_eq_true rfl) (Nat.le_of_ble_eq_true rfl) ?_
      refine g_iload_n dX4_isTold_71 rfl ?_
      exact g_ireturn dX4_isTold_72 rfl rfl
    · exact absurd rfl c17

set_option maxRecDepth 100000 in
set_option maxHeartbeats 4000000 in
theorem l_X4_isTold {X : Sc} {h : Hp} (h3 : In (h 11)) (hS : InS (h 16)) {j e : Nat} (hj : j ≤ 3) (he : e < 6) : ∀ k, k ≤ nL2 (h 16) j → fst1 (p_bad (h 11) (h 16) j e) 0 (nL2 (h 16) j) = fst1 (p_bad (h 11) (h 16) j e) k (nL2 (h 16) j - k) → Go X RX4 cX4_isTold 6 5 5 [.ref 28, .int (nI j), .int (nI e), .int 1, .int (nI k), .null] [] (setg h 11 (daysR (h 11) k)) (some (.int (bI (tld (h 11) (h 16) j e)))) (setg h 11 (h 13)) := by
  have hN := (hS j (by omega)).2.1
  refine loop_up (nL2 (h 16) j) ?_ ?_
  · intro hy
    refine g_iload dX4_isTold_5 rfl ?_
    refine g_aload_n dX4_isTold_7 rfl ?_
    refine g_getR dX4_isTold_8 fl_X4_25 rfl rfl ?_
    refine g_iload_n dX4_isTold_11 rfl ?_
    refine g_iald j dX4_isTold_12 rfl rfl (by omega) ?_
    refine g_st (by rw [setg_n _ _ (by decide), show h 16 (4 + j) = nI (nL2 (h 16) j) from (hS j (by omega)).2.2]) ?_
    refine g_icmp_ge 67 dX4_isTold_13 (by decide) (fun c13 => ?_) (fun c13 => ?_)
    · refine g_aload_n dX4_isTold_67 rfl ?_
      refine g_callV0v (c_X4_putsBack) mi_X4_putsBack mv_X4_putsBack ml_X4_147 dX4_isTold_68 rfl rfl (by decide) (Nat.le_of_ble_eq_true rfl) (Nat.le_of_ble_eq_true rfl) ?_
      refine g_iload_n dX4_isTold_71 rfl ?_
      exact g_ireturn dX4_isTold_72 (by rw [tld, hy, fst_0]; rfl) (by rw [setg_2, setg_n _ _ (by decide)])
    · exact absurd (nI_le (Nat.le_refl _) (by omega)) c13
  · intro k hk ih hy
    refine g_iload dX4_isTold_5 rfl ?_
    refine g_aload_n dX4_isTold_7 rfl ?_
    refine g_getR dX4_isTold_8 fl_X4_25 rfl rfl ?_
    refine g_iload_n dX4_isTold_11 rfl ?_
    refine g_iald j dX4_isTold_12 rfl rfl (by omega) ?_
    refine g_st (by rw [setg_n _ _ (by decide), show h 16 (4 + j) = nI (nL2 (h 16) j) from (hS j (by omega)).2.2]) ?_
    refine g_icmp_ge 67 dX4_isTold_13 (by decide) (fun c13 => ?_) (fun c13 => ?_)
    · exact absurd c13 (nI_ge hk (by omega))
    · refine g_iload_n dX4_isTold_16 rfl ?_
      refine g_if_eq 67 dX4_isTold_17 (by decide) (fun c17 => ?_) (fun c17 => ?_)
      · exact absurd c17 (by decide)
      · refine g_aload_n dX4_isTold_20 rfl ?_
        refine g_getR dX4_isTold_21 fl_X4_28 rfl rfl ?_
        refine g_bipush dX4_isTold_24 bp_40 ?_
        refine g_iload_n dX4_isTold_26 rfl ?_
        refine g_imul dX4_isTold_27 ?_
        refine g_iload dX4_isTold_28 rfl ?_
        refine g_iadd dX4_isTold_30 ?_
        refine g_iald (40 * j + k) dX4_isTold_31 rfl (jx40 _ _) (by omega) ?_
        refine g_st (st2 := [.int (sN (h 16) j k)]) (by rw [setg_n _ _ (by decide), show 8 + (40 * j + k) = 8 + 40 * j + k by omega]; rfl) ?_
        refine g_istore dX4_isTold_32 (by decide) rfl ?_
        refine g_iload dX4_isTold_34 rfl ?_
        refine g_iconst dX4_isTold_36 ic_m1 ?_
        refine g_icmp_eq 51 dX4_isTold_37 (by decide) (fun c37 => ?_) (fun c37 => ?_)
        · refine g_iconst dX4_isTold_51 ic_1 ?_
          refine g_goto 56 dX4_isTold_52 (by decide) ?_
          refine g_istore_n dX4_isTold_56 (by decide) rfl ?_
          refine g_aload_n dX4_isTold_57 rfl ?_
          refine g_callV0v (c_X4_goes (by rw [setg_s]; exact h3.days k)) mi_X4_goes mv_X4_goes ml_X4_111 dX4_isTold_58 rfl rfl (by decide) (Nat.le_of_ble_eq_true rfl) (Nat.le_of_ble_eq_true rfl) ?_
          refine g_h (h2 := setg h 11 (daysR (h 11) (k + 1))) (by rw [setg_s, setg_2]; rfl) ?_
          refine g_iinc dX4_isTold_61 rfl (ii_n _) (by decide) rfl ?_
          refine g_goto 5 dX4_isTold_64 (by decide) ?_
          refine g_mask [true, true, true, true, true, false] ?_
          first
          | (rw [tld, hy, fy]
             have q := e_X4_isTold (X := X) (h := setg h 11 (daysR (h 11) (k + 1))) (by rw [setg_n _ _ (by decide)]; exact hS) (k := k + 1) hj (e := nI e)
             rw [setg_2, setg_n _ _ (by decide)] at q
             exact q)
          | exact ih (by rw [hy, fst_n (by first | (simp [p_bad, c37]; done) | (rw [setg_s] at c48; simp [p_bad, c48]; done)) (by omega)])
        · refine g_iload dX4_isTold_40 rfl ?_
          refine g_aload_n dX4_isTold_42 rfl ?_
          refine g_iload_n dX4_isTold_43 rfl ?_
          refine g_iconst dX4_isTold_44 ic_1 ?_
          refine g_callV2i (c_X4_his (w := 1) he (by decide)) mi_X4_his mv_X4_his ml_X4_44 dX4_isTold_45 rfl rfl (by decide) (Nat.le_of_ble_eq_true rfl) (Nat.le_of_ble_eq_true rfl) ?_
          refine g_icmp_ne 55 dX4_isTold_48 (by decide) (fun c48 => ?_) (fun c48 => ?_)
          · have fy := fst_y (p := p_bad (h 11) (h 16) j e) (k := k) (n := nL2 (h 16) j) (by rw [setg_s] at c48; simp [p_bad, c37, c48]) hk
            refine g_iconst dX4_isTold_55 ic_0 ?_
            refine g_istore_n dX4_isTold_56 (by decide) rfl ?_
            refine g_aload_n dX4_isTold_57 rfl ?_
            refine g_callV0v (c_X4_goes (by rw [setg_s]; exact h3.days k)) mi_X4_goes mv_X4_goes ml_X4_111 dX4_isTold_58 rfl rfl (by decide) (Nat.le_of_ble_eq_true rfl) (Nat.le_of_ble_eq_true rfl) ?_
            refine g_h (h2 := setg h 11 (daysR (h 11) (k + 1))) (by rw [setg_s, setg_2]; rfl) ?_
            refine g_iinc dX4_isTold_61 rfl (ii_n _) (by decide) rfl ?_
            refine g_goto 5 dX4_isTold_64 (by decide) ?_
            refine g_mask [true, true, true, true, true, false] ?_
            first
            | (rw [tld, hy, fy]
               have q := e_X4_isTold (X := X) (h := setg h 11 (daysR (h 11) (k + 1))) (by rw [setg_n _ _ (by decide)]; exact hS) (k := k + 1) hj (e := nI e)
               rw [setg_2, setg_n _ _ (by decide)] at q
               exact q)
            | exact ih (by rw [hy, fst_n (by first | (simp [p_bad, c37]; done) | (rw [setg_s] at c48; simp [p_bad, c48]; done)) (by omega)])
          · refine g_iconst dX4_isTold_51 ic_1 ?_
            refine g_goto 56 dX4_isTold_52 (by decide) ?_
            refine g_istore_n dX4_isTold_56 (by decide) rfl ?_
            refine g_aload_n dX4_isTold_57 rfl ?_
            refine g_callV0v (c_X4_goes (by rw [setg_s]; exact h3.days k)) mi_X4_goes mv_X4_goes ml_X4_111 dX4_isTold_58 rfl rfl (by decide) (Nat.le_of_ble_eq_true rfl) (Nat.le_of_ble_eq_true rfl) ?_
            refine g_h (h2 := setg h 11 (daysR (h 11) (k + 1))) (by rw [setg_s, setg_2]; rfl) ?_
            refine g_iinc dX4_isTold_61 rfl (ii_n _) (by decide) rfl ?_
            refine g_goto 5 dX4_isTold_64 (by decide) ?_
            refine g_mask [true, true, true, true, true, false] ?_
            first
            | (rw [tld, hy, fy]
               have q := e_X4_isTold (X := X) (h := setg h 11 (daysR (h 11) (k + 1))) (by rw [setg_n _ _ (by decide)]; exact hS) (k := k + 1) hj (e := nI e)
               rw [setg_2, setg_n _ _ (by decide)] at q
               exact q)
            | exact ih (by rw [hy, fst_n (by first | (simp [p_bad, c37]; done) | (rw [setg_s] at c48; simp [p_bad, c48]; done)) (by omega)])

set_option maxRecDepth 100000 in
set_option maxHeartbeats 4000000 in
theorem c_X4_isTold {X : Sc} {h : Hp} (h3 : In (h 11)) (hS : InS (h 16)) {j e : Nat} (hj : j ≤ 3) (he : e < 6) : Ct X yX4_isTold cX4_isTold 6 (some .boolean) 5 [.ref 28, .int (nI j), .int (nI e)] h (some (.int (bI (tld (h 11) (h 16) j e)))) (setg h 11 (h 13)) := by
  refine ⟨rok_b _, ?_⟩
  refine g_iconst dX4_isTold_0 ic_1 ?_
  refine g_istore_n dX4_isTold_1 (by decide) rfl ?_
  refine g_iconst dX4_isTold_2 ic_0 ?_
  refine g_istore dX4_isTold_3 (by decide) rfl ?_
  exact g_h (setg_id h 11).symm (l_X4_isTold h3 hS hj he 0 (Nat.zero_le _) rfl)

theorem back2 (h : Hp) (M : Rw) : setg (setg (setg h 13 (h 11)) 11 M) 11 (setg (setg h 13 (h 11)) 11 M 13) = setg h 13 (h 11) := back h M
set_option maxRecDepth 100000 in
set_option maxHeartbeats 4000000 in
theorem l_X4_fits {X : Sc} {h : Hp} (hI : In (h 11)) (hS : InS (h 16))  {j : Nat} (hj : j ≤ 3) {e : Nat} (he : e < 6) : ∀ k, k ≤ 100 → Go X RX4 cX4_fits 6 6 45 [.ref 28, .int (nI j), .int (nI e), .int 0, .int (nI (cntB (fun b => tld (pG (h 11) e 0 (nI b)) (h 16) j e) k)), .int (nI k)] [] (setg h 13 (h 11)) (some (.int (nI (cntB (fun b => tld (pG (h 11) e 0 (nI b)) (h 16) j e) 100)))) (setg h 13 (h 11)) := by
  refine loop_up (100) ?_ ?_
  · refine g_iload dX4_fits_45 rfl ?_
    refine g_bipush dX4_fits_47 bp_99 ?_
    refine g_icmp_gt 85 dX4_fits_49 (by decide) (fun c49 => ?_) (fun c49 => ?_)
    · refine g_iload dX4_fits_85 rfl ?_
      exact g_ireturn dX4_fits_87 rfl rfl
    · exact absurd (nI_lt (a := 99) (b := 100) (by decide) (by decide)) c49
  · intro k hk ih
    refine g_iload dX4_fits_45 rfl ?_
    refine g_bipush dX4_fits_47 bp_99 ?_
    refine g_icmp_gt 85 dX4_fits_49 (by decide) (fun c49 => ?_) (fun c49 => ?_)
    · exact absurd c49 (nI_nlt (a := 99) (b := k) (by omega) (by decide))
    · refine g_aload_n dX4_fits_52 rfl ?_
      refine g_iload_n dX4_fits_53 rfl ?_
      refine g_iconst dX4_fits_54 ic_0 ?_
      refine g_iload dX4_fits_55 rfl ?_
      refine g_callV3v (c_X4_lets (w := 0) he (by decide)) mi_X4_lets mv_X4_lets ml_X4_74 dX4_fits_57 rfl rfl (by decide) (Nat.le_of_ble_eq_true rfl) (Nat.le_of_ble_eq_true rfl) ?_
      refine g_h (h2 := setg (setg h 13 (h 11)) 11 (pG (h 11) e 0 (nI k))) (by rw [setg_n _ _ (by decide)]) ?_
      refine g_iload dX4_fits_60 rfl ?_
      refine g_aload_n dX4_fits_62 rfl ?_
      refine g_iload_n dX4_fits_63 rfl ?_
      refine g_iload_n dX4_fits_64 rfl ?_
      refine g_callV2i (c_X4_isTold (by rw [setg_s]; exact hI.pG he (w := 0) (by decide) (show k ≤ 99 by omega)) (by rw [setg_n _ _ (by decide), setg_n _ _ (by decide)]; exact hS) hj he) mi_X4_isTold mv_X4_isTold ml_X4_177 dX4_fits_65 rfl rfl (by decide) (Nat.le_of_ble_eq_true rfl) (Nat.le_of_ble_eq_true rfl) ?_
      refine g_h (back2 _ _) ?_
      refine g_st (by rw [setg_s, setg_n _ _ (by decide), setg_n _ _ (by decide)]) ?_
      refine g_if_eq 75 dX4_fits_68 (by decide) (fun c68 => ?_) (fun c68 => ?_)
      · refine g_iconst dX4_fits_75 ic_0 ?_
        refine g_iadd dX4_fits_76 ?_
        refine g_istore dX4_fits_77 (by decide) rfl ?_
        refine g_iinc dX4_fits_79 rfl (ii_n _) (by decide) rfl ?_
        refine g_goto 45 dX4_fits_82 (by decide) ?_
        exact g_lv (by first | (rw [cntB, if_neg (by rw [b0 c68]; decide), Int32.add_zero]; rfl) | (rw [cntB, if_pos (nb0 c68), nI_1]; rfl)) ih
      · refine g_iconst dX4_fits_71 ic_1 ?_
        refine g_goto 76 dX4_fits_72 (by decide) ?_
        refine g_iadd dX4_fits_76 ?_
        refine g_istore dX4_fits_77 (by decide) rfl ?_
        refine g_iinc dX4_fits_79 rfl (ii_n _) (by decide) rfl ?_
        refine g_goto 45 dX4_fits_82 (by decide) ?_
        exact g_lv (by first | (rw [cntB, if_neg (by rw [b0 c68]; decide), Int32.add_zero]; rfl) | (rw [cntB, if_pos (nb0 c68), nI_1]; rfl)) ih

set_option maxRecDepth 100000 in
set_option maxHeartbeats 4000000 in
theorem l_X4_kinds {X : Sc} {h : Hp} (hI : In (h 11)) (hS : InS (h 16)) {d : Nat} (hd : d < 8) {j : Nat} (hj : j ≤ 3) {e : Nat} (he : e < 6) : ∀ k, k ≤ 7 → Go X RX4 cX4_kinds 7 6 59 [.ref 28, .int (nI j), .int (nI d), .int (nI e), .int 0, .int (setB (fun k => tld (pD (h 11) d 0 (nI k)) (h 16) j e) k), .int (nI k)] [] (setg h 13 (h 11)) (some (.int (setB (fun k => tld (pD (h 11) d 0 (nI k)) (h 16) j e) 7))) (setg h 13 (h 11)) := by
  refine loop_up (7) ?_ ?_
  · refine g_iload dX4_kinds_59 rfl ?_
    refine g_bipush dX4_kinds_61 bp_6 ?_
    refine g_icmp_gt 102 dX4_kinds_63 (by decide) (fun c63 => ?_) (fun c63 => ?_)
    · refine g_iload dX4_kinds_102 rfl ?_
      exact g_ireturn dX4_kinds_104 rfl rfl
    · exact absurd (nI_lt (a := 6) (b := 7) (by decide) (by decide)) c63
  · intro k hk ih
    refine g_iload dX4_kinds_59 rfl ?_
    refine g_bipush dX4_kinds_61 bp_6 ?_
    refine g_icmp_gt 102 dX4_kinds_63 (by decide) (fun c63 => ?_) (fun c63 => ?_)
    · exact absurd c63 (nI_nlt (a := 6) (b := k) (by omega) (by decide))
    · refine g_aload_n dX4_kinds_66 rfl ?_
      refine g_iload_n dX4_kinds_67 rfl ?_
      refine g_iconst dX4_kinds_68 ic_0 ?_
      refine g_iload dX4_kinds_69 rfl ?_
      refine g_callV3v (c_X4_put (w := 0) hd (by decide)) mi_X4_put mv_X4_put ml_X4_62 dX4_kinds_71 rfl rfl (by decide) (Nat.le_of_ble_eq_true rfl) (Nat.le_of_ble_eq_true rfl) ?_
      refine g_h (h2 := setg (setg h 13 (h 11)) 11 (pD (h 11) d 0 (nI k))) (by rw [setg_n _ _ (by decide)]) ?_
      refine g_iload dX4_kinds_74 rfl ?_
      refine g_aload_n dX4_kinds_76 rfl ?_
      refine g_iload_n dX4_kinds_77 rfl ?_
      refine g_iload_n dX4_kinds_78 rfl ?_
      refine g_callV2i (c_X4_isTold (by rw [setg_s]; exact hI.pD hd (w := 0) (by decide) (show k ≤ 6 by omega)) (by rw [setg_n _ _ (by decide), setg_n _ _ (by decide)]; exact hS) hj he) mi_X4_isTold mv_X4_isTold ml_X4_177 dX4_kinds_79 rfl rfl (by decide) (Nat.le_of_ble_eq_true rfl) (Nat.le_of_ble_eq_true rfl) ?_
      refine g_h (back2 _ _) ?_
      refine g_st (by rw [setg_s, setg_n _ _ (by decide), setg_n _ _ (by decide)]) ?_
      refine g_if_eq 92 dX4_kinds_82 (by decide) (fun c82 => ?_) (fun c82 => ?_)
      · refine g_iconst dX4_kinds_92 ic_0 ?_
        refine g_ior dX4_kinds_93 ?_
        refine g_istore dX4_kinds_94 (by decide) rfl ?_
        refine g_iinc dX4_kinds_96 rfl (ii_n _) (by decide) rfl ?_
        refine g_goto 59 dX4_kinds_99 (by decide) ?_
        exact g_lv (by first | (rw [setB, if_neg (by rw [b0 c82]; decide), Int32.or_zero]; rfl) | (rw [setB, if_pos (nb0 c82)]; rfl)) ih
      · refine g_iconst dX4_kinds_85 ic_1 ?_
        refine g_iload dX4_kinds_86 rfl ?_
        refine g_ishl dX4_kinds_88 ?_
        refine g_goto 93 dX4_kinds_89 (by decide) ?_
        refine g_ior dX4_kinds_93 ?_
        refine g_istore dX4_kinds_94 (by decide) rfl ?_
        refine g_iinc dX4_kinds_96 rfl (ii_n _) (by decide) rfl ?_
        refine g_goto 59 dX4_kinds_99 (by decide) ?_
        exact g_lv (by first | (rw [setB, if_neg (by rw [b0 c82]; decide), Int32.or_zero]; rfl) | (rw [setB, if_pos (nb0 c82)]; rfl)) ih

set_option maxRecDepth 100000 in
set_option maxHeartbeats 4000000 in
theorem c_X4_fits {X : Sc} {h : Hp} (hI : In (h 11)) (hS : InS (h 16)) {s g : Int32} : Ct X yX4_fits cX4_fits 6 (some .int) 6 [.ref 28, .int s, .int g] h (some (.int (oV (f_fits (h 11) (h 16) s g)))) (hM h (f_fits (h 11) (h 16) s g)) := by
  refine ⟨rfl, ?_⟩
  refine g_aload_n dX4_fits_0 rfl ?_
  refine g_iload_n dX4_fits_1 rfl ?_
  refine g_callV1i (c_X4_notThere) mi_X4_notThere mv_X4_notThere ml_X4_174 dX4_fits_2 rfl rfl (by decide) (Nat.le_of_ble_eq_true rfl) (Nat.le_of_ble_eq_true rfl) ?_
  refine g_istore_n dX4_fits_5 (by decide) rfl ?_
  refine g_iload_n dX4_fits_6 rfl ?_
  refine g_if_ne 23 dX4_fits_7 (by decide) (fun c7 => ?_) (fun c7 => ?_)
  · refine g_iload_n dX4_fits_23 rfl ?_
    refine g_istore_n dX4_fits_24 (by decide) rfl ?_
    refine g_iload_n dX4_fits_25 rfl ?_
    refine g_if_eq 35 dX4_fits_26 (by decide) (fun c26 => ?_) (fun c26 => ?_)
    · first
      | exact absurd c26 c7
      | exact absurd c26 (by decide)
      | (obtain ⟨e, le, he, te, rfl⟩ := isG_of2 hI (nb0 c15)
         refine g_aload_n dX4_fits_35 rfl ?_
         refine g_callV0v (c_X4_thinks) mi_X4_thinks mv_X4_thinks ml_X4_144 dX4_fits_36 rfl rfl (by decide) (Nat.le_of_ble_eq_true rfl) (Nat.le_of_ble_eq_true rfl) ?_
         refine g_iconst dX4_fits_39 ic_0 ?_
         refine g_istore dX4_fits_40 (by decide) rfl ?_
         refine g_iconst dX4_fits_42 ic_0 ?_
         refine g_istore dX4_fits_43 (by decide) rfl ?_
         have ef : f_fits (h 11) (h 16) (nI j) (nI e) = .inr (nI (cntB (fun b => tld (pG (h 11) e 0 (nI b)) (h 16) j e) 100), h 11) := by rw [f_fits, onS_ok tz, if_pos (nb0 c15), tj, te]
         rw [← hM_v h ef, ef]
         simp only [oV]
         rw [c7]
         exact l_X4_fits hI hS hj he 0 (by decide))
    · first
      | exact absurd c7 c26
      | (refine g_aload_n dX4_fits_29 rfl ?_
         refine g_iload_n dX4_fits_30 rfl ?_
         first
         | refine g_callV1i (c_X4_finds 0 (by decide) (by decide)) mi_X4_finds mv_X4_finds ml_X4_36 dX4_fits_31 rfl rfl (by decide) (Nat.le_of_ble_eq_true rfl) (Nat.le_of_ble_eq_true rfl) ?_
         | refine g_callV1i (c_X4_finds (if inB s 0 3 = true then 5 else 0) (by split <;> decide) (trb_k c7)) mi_X4_finds mv_X4_finds ml_X4_36 dX4_fits_31 rfl rfl (by decide) (Nat.le_of_ble_eq_true rfl) (Nat.le_of_ble_eq_true rfl) ?_
         exact g_ireturn dX4_fits_34 (by first | (rw [f_fits, ← (trb_f c7 _).2]; done) | (rw [f_fits, onS_ok tz, if_neg (by rw [b0 c15]; decide)]; rfl)) (by first | (refine hM_k _ _ ?_ (trb_f c7 _).1; split <;> decide) | exact hM_0 _ (by rw [f_fits, onS_ok tz, if_neg (by rw [b0 c15]; decide)])))
  · have tz := trb_0 c7
    obtain ⟨j, hj, tj, rfl⟩ := inB_of 3 (by decide) tz.1
    refine g_aload_n dX4_fits_10 rfl ?_
    refine g_iload_n dX4_fits_11 rfl ?_
    refine g_callV1i (c_X4_isGuest hI) mi_X4_isGuest mv_X4_isGuest ml_X4_86 dX4_fits_12 rfl rfl (by decide) (Nat.le_of_ble_eq_true rfl) (Nat.le_of_ble_eq_true rfl) ?_
    refine g_if_ne 23 dX4_fits_15 (by decide) (fun c15 => ?_) (fun c15 => ?_)
    · refine g_iload_n dX4_fits_23 rfl ?_
      refine g_istore_n dX4_fits_24 (by decide) rfl ?_
      refine g_iload_n dX4_fits_25 rfl ?_
      refine g_if_eq 35 dX4_fits_26 (by decide) (fun c26 => ?_) (fun c26 => ?_)
      · first
        | exact absurd c26 c7
        | exact absurd c26 (by decide)
        | (obtain ⟨e, le, he, te, rfl⟩ := isG_of2 hI (nb0 c15)
           refine g_aload_n dX4_fits_35 rfl ?_
           refine g_callV0v (c_X4_thinks) mi_X4_thinks mv_X4_thinks ml_X4_144 dX4_fits_36 rfl rfl (by decide) (Nat.le_of_ble_eq_true rfl) (Nat.le_of_ble_eq_true rfl) ?_
           refine g_iconst dX4_fits_39 ic_0 ?_
           refine g_istore dX4_fits_40 (by decide) rfl ?_
           refine g_iconst dX4_fits_42 ic_0 ?_
           refine g_istore dX4_fits_43 (by decide) rfl ?_
           have ef : f_fits (h 11) (h 16) (nI j) (nI e) = .inr (nI (cntB (fun b => tld (pG (h 11) e 0 (nI b)) (h 16) j e) 100), h 11) := by rw [f_fits, onS_ok tz, if_pos (nb0 c15), tj, te]
           rw [← hM_v h ef, ef]
           simp only [oV]
           rw [c7]
           exact l_X4_fits hI hS hj he 0 (by decide))
      · first
        | exact absurd c7 c26
        | (refine g_aload_n dX4_fits_29 rfl ?_
           refine g_iload_n dX4_fits_30 rfl ?_
           first
           | refine g_callV1i (c_X4_finds 0 (by decide) (by decide)) mi_X4_finds mv_X4_finds ml_X4_36 dX4_fits_31 rfl rfl (by decide) (Nat.le_of_ble_eq_true rfl) (Nat.le_of_ble_eq_true rfl) ?_
           | refine g_callV1i (c_X4_finds (if inB s 0 3 = true then 5 else 0) (by split <;> decide) (trb_k c7)) mi_X4_finds mv_X4_finds ml_X4_36 dX4_fits_31 rfl rfl (by decide) (Nat.le_of_ble_eq_true rfl) (Nat.le_of_ble_eq_true rfl) ?_
           exact g_ireturn dX4_fits_34 (by first | (rw [f_fits, ← (trb_f c7 _).2]; done) | (rw [f_fits, onS_ok tz, if_neg (by rw [b0 c15]; decide)]; rfl)) (by first | (refine hM_k _ _ ?_ (trb_f c7 _).1; split <;> decide) | exact hM_0 _ (by rw [f_fits, onS_ok tz, if_neg (by rw [b0 c15]; decide)])))
    · refine g_ldc dX4_fits_18 lc_X4_34 ?_
      refine g_goto 24 dX4_fits_20 (by decide) ?_
      refine g_istore_n dX4_fits_24 (by decide) rfl ?_
      refine g_iload_n dX4_fits_25 rfl ?_
      refine g_if_eq 35 dX4_fits_26 (by decide) (fun c26 => ?_) (fun c26 => ?_)
      · first
        | exact absurd c26 c7
        | exact absurd c26 (by decide)
        | (obtain ⟨e, le, he, te, rfl⟩ := isG_of2 hI (nb0 c15)
           refine g_aload_n dX4_fits_35 rfl ?_
           refine g_callV0v (c_X4_thinks) mi_X4_thinks mv_X4_thinks ml_X4_144 dX4_fits_36 rfl rfl (by decide) (Nat.le_of_ble_eq_true rfl) (Nat.le_of_ble_eq_true rfl) ?_
           refine g_iconst dX4_fits_39 ic_0 ?_
           refine g_istore dX4_fits_40 (by decide) rfl ?_
           refine g_iconst dX4_fits_42 ic_0 ?_
           refine g_istore dX4_fits_43 (by decide) rfl ?_
           have ef : f_fits (h 11) (h 16) (nI j) (nI e) = .inr (nI (cntB (fun b => tld (pG (h 11) e 0 (nI b)) (h 16) j e) 100), h 11) := by rw [f_fits, onS_ok tz, if_pos (nb0 c15), tj, te]
           rw [← hM_v h ef, ef]
           simp only [oV]
           rw [c7]
           exact l_X4_fits hI hS hj he 0 (by decide))
      · first
        | exact absurd c7 c26
        | (refine g_aload_n dX4_fits_29 rfl ?_
           refine g_iload_n dX4_fits_30 rfl ?_
           first
           | refine g_callV1i (c_X4_finds 0 (by decide) (by decide)) mi_X4_finds mv_X4_finds ml_X4_36 dX4_fits_31 rfl rfl (by decide) (Nat.le_of_ble_eq_true rfl) (Nat.le_of_ble_eq_true rfl) ?_
           | refine g_callV1i (c_X4_finds (if inB s 0 3 = true then 5 else 0) (by split <;> decide) (trb_k c7)) mi_X4_finds mv_X4_finds ml_X4_36 dX4_fits_31 rfl rfl (by decide) (Nat.le_of_ble_eq_true rfl) (Nat.le_of_ble_eq_true rfl) ?_
           exact g_ireturn dX4_fits_34 (by first | (rw [f_fits, ← (trb_f c7 _).2]; done) | (rw [f_fits, onS_ok tz, if_neg (by rw [b0 c15]; decide)]; rfl)) (by first | (refine hM_k _ _ ?_ (trb_f c7 _).1; split <;> decide) | exact hM_0 _ (by rw [f_fits, onS_ok tz, if_neg (by rw [b0 c15]; decide)])))

set_option maxRecDepth 100000 in
set_option maxHeartbeats 4000000 in
theorem c_X4_kinds {X : Sc} {h : Hp} (hI : In (h 11)) (hS : InS (h 16)) {s d g : Int32} : Ct X yX4_kinds cX4_kinds 7 (some .int) 6 [.ref 28, .int s, .int d, .int g] h (some (.int (oV (f_kinds (h 11) (h 16) s d g)))) (hM h (f_kinds (h 11) (h 16) s d g)) := by
  refine ⟨rfl, ?_⟩
  refine g_aload_n dX4_kinds_0 rfl ?_
  refine g_iload_n dX4_kinds_1 rfl ?_
  refine g_callV1i (c_X4_notThere) mi_X4_notThere mv_X4_notThere ml_X4_174 dX4_kinds_2 rfl rfl (by decide) (Nat.le_of_ble_eq_true rfl) (Nat.le_of_ble_eq_true rfl) ?_
  refine g_istore dX4_kinds_5 (by decide) rfl ?_
  refine g_iload dX4_kinds_7 rfl ?_
  refine g_if_ne 33 dX4_kinds_9 (by decide) (fun c9 => ?_) (fun c9 => ?_)
  · refine g_iload dX4_kinds_33 rfl ?_
    refine g_istore dX4_kinds_35 (by decide) rfl ?_
    refine g_iload dX4_kinds_37 rfl ?_
    refine g_if_eq 49 dX4_kinds_39 (by decide) (fun c39 => ?_) (fun c39 => ?_)
    · first
      | exact absurd c39 c9
      | exact absurd c39 (by decide)
      | (obtain ⟨i, li, hi, ti, rfl⟩ := isD_of2 hI (nb0 c17)
         obtain ⟨e, le, he, te, rfl⟩ := isG_of2 hI (nb0 c25)
         refine g_aload_n dX4_kinds_49 rfl ?_
         refine g_callV0v (c_X4_thinks) mi_X4_thinks mv_X4_thinks ml_X4_144 dX4_kinds_50 rfl rfl (by decide) (Nat.le_of_ble_eq_true rfl) (Nat.le_of_ble_eq_true rfl) ?_
         refine g_iconst dX4_kinds_53 ic_0 ?_
         refine g_istore dX4_kinds_54 (by decide) rfl ?_
         refine g_iconst dX4_kinds_56 ic_0 ?_
         refine g_istore dX4_kinds_57 (by decide) rfl ?_
         have ef : f_kinds (h 11) (h 16) (nI j) (nI i) (nI e) = .inr (setB (fun k => tld (pD (h 11) i 0 (nI k)) (h 16) j e) 7, h 11) := by rw [f_kinds, onS_ok tz, if_pos (by rw [nb0 c17, nb0 c25]; rfl), tj, te, ti]
         rw [← hM_v h ef, ef]
         simp only [oV]
         rw [c9]
         exact l_X4_kinds hI hS hi hj he 0 (by decide))
    · first
      | exact absurd c9 c39
      | (refine g_aload_n dX4_kinds_42 rfl ?_
         refine g_iload dX4_kinds_43 rfl ?_
         first
         | refine g_callV1i (c_X4_finds 0 (by decide) (by decide)) mi_X4_finds mv_X4_finds ml_X4_36 dX4_kinds_45 rfl rfl (by decide) (Nat.le_of_ble_eq_true rfl) (Nat.le_of_ble_eq_true rfl) ?_
         | refine g_callV1i (c_X4_finds (if inB s 0 3 = true then 5 else 0) (by split <;> decide) (trb_k c9)) mi_X4_finds mv_X4_finds ml_X4_36 dX4_kinds_45 rfl rfl (by decide) (Nat.le_of_ble_eq_true rfl) (Nat.le_of_ble_eq_true rfl) ?_
         exact g_ireturn dX4_kinds_48 (by first | (rw [f_kinds, ← (trb_f c9 _).2]; done) | (rw [f_kinds, onS_ok tz, if_neg (by first | (simp [b0 c17]; done) | (simp [b0 c25]; done))]; rfl)) (by first | (refine hM_k _ _ ?_ (trb_f c9 _).1; split <;> decide) | exact hM_0 _ (by rw [f_kinds, onS_ok tz, if_neg (by first | (simp [b0 c17]; done) | (simp [b0 c25]; done))])))
  · have tz := trb_0 c9
    obtain ⟨j, hj, tj, rfl⟩ := inB_of 3 (by decide) tz.1
    refine g_aload_n dX4_kinds_12 rfl ?_
    refine g_iload_n dX4_kinds_13 rfl ?_
    refine g_callV1i (c_X4_isDish hI) mi_X4_isDish mv_X4_isDish ml_X4_80 dX4_kinds_14 rfl rfl (by decide) (Nat.le_of_ble_eq_true rfl) (Nat.le_of_ble_eq_true rfl) ?_
    refine g_if_eq 28 dX4_kinds_17 (by decide) (fun c17 => ?_) (fun c17 => ?_)
    · refine g_ldc dX4_kinds_28 lc_X4_34 ?_
      refine g_goto 35 dX4_kinds_30 (by decide) ?_
      refine g_istore dX4_kinds_35 (by decide) rfl ?_
      refine g_iload dX4_kinds_37 rfl ?_
      refine g_if_eq 49 dX4_kinds_39 (by decide) (fun c39 => ?_) (fun c39 => ?_)
      · first
        | exact absurd c39 c9
        | exact absurd c39 (by decide)
        | (obtain ⟨i, li, hi, ti, rfl⟩ := isD_of2 hI (nb0 c17)
           obtain ⟨e, le, he, te, rfl⟩ := isG_of2 hI (nb0 c25)
           refine g_aload_n dX4_kinds_49 rfl ?_
           refine g_callV0v (c_X4_thinks) mi_X4_thinks mv_X4_thinks ml_X4_144 dX4_kinds_50 rfl rfl (by decide) (Nat.le_of_ble_eq_true rfl) (Nat.le_of_ble_eq_true rfl) ?_
           refine g_iconst dX4_kinds_53 ic_0 ?_
           refine g_istore dX4_kinds_54 (by decide) rfl ?_
           refine g_iconst dX4_kinds_56 ic_0 ?_
           refine g_istore dX4_kinds_57 (by decide) rfl ?_
           have ef : f_kinds (h 11) (h 16) (nI j) (nI i) (nI e) = .inr (setB (fun k => tld (pD (h 11) i 0 (nI k)) (h 16) j e) 7, h 11) := by rw [f_kinds, onS_ok tz, if_pos (by rw [nb0 c17, nb0 c25]; rfl), tj, te, ti]
           rw [← hM_v h ef, ef]
           simp only [oV]
           rw [c9]
           exact l_X4_kinds hI hS hi hj he 0 (by decide))
      · first
        | exact absurd c9 c39
        | (refine g_aload_n dX4_kinds_42 rfl ?_
           refine g_iload dX4_kinds_43 rfl ?_
           first
           | refine g_callV1i (c_X4_finds 0 (by decide) (by decide)) mi_X4_finds mv_X4_finds ml_X4_36 dX4_kinds_45 rfl rfl (by decide) (Nat.le_of_ble_eq_true rfl) (Nat.le_of_ble_eq_true rfl) ?_
           | refine g_callV1i (c_X4_finds (if inB s 0 3 = true then 5 else 0) (by split <;> decide) (trb_k c9)) mi_X4_finds mv_X4_finds ml_X4_36 dX4_kinds_45 rfl rfl (by decide) (Nat.le_of_ble_eq_true rfl) (Nat.le_of_ble_eq_true rfl) ?_
           exact g_ireturn dX4_kinds_48 (by first | (rw [f_kinds, ← (trb_f c9 _).2]; done) | (rw [f_kinds, onS_ok tz, if_neg (by first | (simp [b0 c17]; done) | (simp [b0 c25]; done))]; rfl)) (by first | (refine hM_k _ _ ?_ (trb_f c9 _).1; split <;> decide) | exact hM_0 _ (by rw [f_kinds, onS_ok tz, if_neg (by first | (simp [b0 c17]; done) | (simp [b0 c25]; done))])))
    · refine g_aload_n dX4_kinds_20 rfl ?_
      refine g_iload_n dX4_kinds_21 rfl ?_
      refine g_callV1i (c_X4_isGuest hI) mi_X4_isGuest mv_X4_isGuest ml_X4_86 dX4_kinds_22 rfl rfl (by decide) (Nat.le_of_ble_eq_true rfl) (Nat.le_of_ble_eq_true rfl) ?_
      refine g_if_ne 33 dX4_kinds_25 (by decide) (fun c25 => ?_) (fun c25 => ?_)
      · refine g_iload dX4_kinds_33 rfl ?_
        refine g_istore dX4_kinds_35 (by decide) rfl ?_
        refine g_iload dX4_kinds_37 rfl ?_
        refine g_if_eq 49 dX4_kinds_39 (by decide) (fun c39 => ?_) (fun c39 => ?_)
        · first
          | exact absurd c39 c9
          | exact absurd c39 (by decide)
          | (obtain ⟨i, li, hi, ti, rfl⟩ := isD_of2 hI (nb0 c17)
             obtain ⟨e, le, he, te, rfl⟩ := isG_of2 hI (nb0 c25)
             refine g_aload_n dX4_kinds_49 rfl ?_
             refine g_callV0v (c_X4_thinks) mi_X4_thinks mv_X4_thinks ml_X4_144 dX4_kinds_50 rfl rfl (by decide) (Nat.le_of_ble_eq_true rfl) (Nat.le_of_ble_eq_true rfl) ?_
             refine g_iconst dX4_kinds_53 ic_0 ?_
             refine g_istore dX4_kinds_54 (by decide) rfl ?_
             refine g_iconst dX4_kinds_56 ic_0 ?_
             refine g_istore dX4_kinds_57 (by decide) rfl ?_
             have ef : f_kinds (h 11) (h 16) (nI j) (nI i) (nI e) = .inr (setB (fun k => tld (pD (h 11) i 0 (nI k)) (h 16) j e) 7, h 11) := by rw [f_kinds, onS_ok tz, if_pos (by rw [nb0 c17, nb0 c25]; rfl), tj, te, ti]
             rw [← hM_v h ef, ef]
             simp only [oV]
             rw [c9]
             exact l_X4_kinds hI hS hi hj he 0 (by decide))
        · first
          | exact absurd c9 c39
          | (refine g_aload_n dX4_kinds_42 rfl ?_
             refine g_iload dX4_kinds_43 rfl ?_
             first
             | refine g_callV1i (c_X4_finds 0 (by decide) (by decide)) mi_X4_finds mv_X4_finds ml_X4_36 dX4_kinds_45 rfl rfl (by decide) (Nat.le_of_ble_eq_true rfl) (Nat.le_of_ble_eq_true rfl) ?_
             | refine g_callV1i (c_X4_finds (if inB s 0 3 = true then 5 else 0) (by split <;> decide) (trb_k c9)) mi_X4_finds mv_X4_finds ml_X4_36 dX4_kinds_45 rfl rfl (by decide) (Nat.le_of_ble_eq_true rfl) (Nat.le_of_ble_eq_true rfl) ?_
             exact g_ireturn dX4_kinds_48 (by first | (rw [f_kinds, ← (trb_f c9 _).2]; done) | (rw [f_kinds, onS_ok tz, if_neg (by first | (simp [b0 c17]; done) | (simp [b0 c25]; done))]; rfl)) (by first | (refine hM_k _ _ ?_ (trb_f c9 _).1; split <;> decide) | exact hM_0 _ (by rw [f_kinds, onS_ok tz, if_neg (by first | (simp [b0 c17]; done) | (simp [b0 c25]; done))])))
      · refine g_ldc dX4_kinds_28 lc_X4_34 ?_
        refine g_goto 35 dX4_kinds_30 (by decide) ?_
        refine g_istore dX4_kinds_35 (by decide) rfl ?_
        refine g_iload dX4_kinds_37 rfl ?_
        refine g_if_eq 49 dX4_kinds_39 (by decide) (fun c39 => ?_) (fun c39 => ?_)
        · first
          | exact absurd c39 c9
          | exact absurd c39 (by decide)
          | (obtain ⟨i, li, hi, ti, rfl⟩ := isD_of2 hI (nb0 c17)
             obtain ⟨e, le, he, te, rfl⟩ := isG_of2 hI (nb0 c25)
             refine g_aload_n dX4_kinds_49 rfl ?_
             refine g_callV0v (c_X4_thinks) mi_X4_thinks mv_X4_thinks ml_X4_144 dX4_kinds_50 rfl rfl (by decide) (Nat.le_of_ble_eq_true rfl) (Nat.le_of_ble_eq_true rfl) ?_
             refine g_iconst dX4_kinds_53 ic_0 ?_
             refine g_istore dX4_kinds_54 (by decide) rfl ?_
             refine g_iconst dX4_kinds_56 ic_0 ?_
             refine g_istore dX4_kinds_57 (by decide) rfl ?_
             have ef : f_kinds (h 11) (h 16) (nI j) (nI i) (nI e) = .inr (setB (fun k => tld (pD (h 11) i 0 (nI k)) (h 16) j e) 7, h 11) := by rw [f_kinds, onS_ok tz, if_pos (by rw [nb0 c17, nb0 c25]; rfl), tj, te, ti]
             rw [← hM_v h ef, ef]
             simp only [oV]
             rw [c9]
             exact l_X4_kinds hI hS hi hj he 0 (by decide))
        · first
          | exact absurd c9 c39
          | (refine g_aload_n dX4_kinds_42 rfl ?_
             refine g_iload dX4_kinds_43 rfl ?_
             first
             | refine g_callV1i (c_X4_finds 0 (by decide) (by decide)) mi_X4_finds mv_X4_finds ml_X4_36 dX4_kinds_45 rfl rfl (by decide) (Nat.le_of_ble_eq_true rfl) (Nat.le_of_ble_eq_true rfl) ?_
             | refine g_callV1i (c_X4_finds (if inB s 0 3 = true then 5 else 0) (by split <;> decide) (trb_k c9)) mi_X4_finds mv_X4_finds ml_X4_36 dX4_kinds_45 rfl rfl (by decide) (Nat.le_of_ble_eq_true rfl) (Nat.le_of_ble_eq_true rfl) ?_
             exact g_ireturn dX4_kinds_48 (by first | (rw [f_kinds, ← (trb_f c9 _).2]; done) | (rw [f_kinds, onS_ok tz, if_neg (by first | (simp [b0 c17]; done) | (simp [b0 c25]; done))]; rfl)) (by first | (refine hM_k _ _ ?_ (trb_f c9 _).1; split <;> decide) | exact hM_0 _ (by rw [f_kinds, onS_ok tz, if_neg (by first | (simp [b0 c17]; done) | (simp [b0 c25]; done))])))

