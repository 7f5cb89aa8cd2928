/-! TOLD TOWNS, THE TAPE'S BYTES, WHICH TO STRIKE OFF, ODDS: the class -/
def p_bad (m sh : Rw) (s e k : Nat) : Bool := !decide (sN sh s k = -1) && !decide (sN sh s k = gF (daysR m k) e 1)
def tld (m sh : Rw) (s e : Nat) : Bool := (fst1 (p_bad m sh s e) 0 (nL2 sh s)).isNone
def tldT (m sh : Rw) (s e : Nat) : Rw := match fst1 (p_bad m sh s e) 0 (nL2 sh s) with | some k => daysR m k | none => daysR m (nL2 sh s - 1)
def cntB (p : Nat → Bool) : Nat → Nat
  | 0 => 0
  | n + 1 => if p n then cntB p n + 1 else cntB p n
def setB (p : Nat → Bool) : Nat → Int32
  | 0 => 0
  | n + 1 => if p n then setB p n ||| 1 <<< (nI n &&& 31) else setB p n
def f_fits (m sh : Rw) (s g : Int32) : Oc := onS sh s (if isG m g then .inr (nI (cntB (fun b => tld (pG m (tn g) 0 (nI b)) sh (tn s) (tn g)) 100), m) else .inl 0)
def f_kinds (m sh : Rw) (s d g : Int32) : Oc := onS sh s (if isD m d && isG m g then .inr (setB (fun k => tld (pD m (tn d) 0 (nI k)) sh (tn s) (tn g)) 7, m) else .inl 0)
set_option maxRecDepth 100000 in
set_option maxHeartbeats 4000000 in
theorem l_X3_goesAsTold {X : Sc} {h : Hp} (h3 : In (h 3)) (hS : InS (h 6)) {j e : Nat} (hj : j ≤ 3) (he : e < 6) : ∀ k, k ≤ nL2 (h 6) j → fst1 (p_bad (h 3) (h 6) j e) 0 (nL2 (h 6) j) = fst1 (p_bad (h 3) (h 6) j e) k (nL2 (h 6) j - k) → Go X RX3 cX3_goesAsTold 5 4 2 [.ref 0, .ref (19 + 2 * j), .int (nI e), .int (nI k), .null] [] (setg h 3 (daysR (h 3) (k - 1))) (some (.int (bI (tld (h 3) (h 6) j e)))) (setg h 3 (tldT (h 3) (h 6) j e)) := by
  have hN := (hS j (by omega)).2.1
  refine loop_up (nL2 (h 6) j) ?_ ?_
  · intro hy
    refine g_iload_n dX3_goesAsTold_2 rfl ?_
    refine g_aload_n dX3_goesAsTold_3 rfl ?_
    refine g_getI dX3_goesAsTold_4 fl_X3_242 (sheetAt (by omega)).1 rfl ?_
    refine g_icmp_ge 57 dX3_goesAsTold_7 (by decide) (fun c7 => ?_) (fun c7 => ?_)
    · refine g_iconst dX3_goesAsTold_57 ic_1 ?_
      exact g_ireturn dX3_goesAsTold_58 (by rw [tld, hy, fst_0]; rfl) (by rw [tldT, hy, fst_0])
    · exact (lp_yes ((hS j (by omega)).2.2) (by omega) c7).elim
  · intro k hk ih hy
    refine g_iload_n dX3_goesAsTold_2 rfl ?_
    refine g_aload_n dX3_goesAsTold_3 rfl ?_
    refine g_getI dX3_goesAsTold_4 fl_X3_242 (sheetAt (by omega)).1 rfl ?_
    refine g_icmp_ge 57 dX3_goesAsTold_7 (by decide) (fun c7 => ?_) (fun c7 => ?_)
    · exact (lp_no ((hS j (by omega)).2.2) (by omega) hk c7).elim
    · refine g_iload_n dX3_goesAsTold_10 rfl ?_
      refine g_if_le 21 dX3_goesAsTold_11 (by decide) (fun c11 => ?_) (fun c11 => ?_)
      · first
        | (refine g_h (h2 := setg h 3 (daysR (h 3) k)) rfl ?_)
        | (have k0 : k = 0 := by
            rcases Nat.eq_zero_or_pos k with q | q
            · exact q
            · exact absurd c11 (nI_nle q (by omega))
           refine g_h (h2 := setg h 3 (daysR (h 3) k)) (by subst k0; rfl) ?_)
        refine g_aload_n dX3_goesAsTold_21 rfl ?_
        refine g_getR dX3_goesAsTold_22 fl_X3_256 (sheetAt (by omega)).1 rfl ?_
        refine g_iload_n dX3_goesAsTold_25 rfl ?_
        refine g_iald k dX3_goesAsTold_26 (sheetAt (by omega)).2 rfl (by omega) ?_
        refine g_st (st2 := [.int (sN (h 6) j k)]) (by rw [setg_n _ _ (by decide)]; rfl) ?_
        refine g_istore dX3_goesAsTold_27 (by decide) rfl ?_
        refine g_iload dX3_goesAsTold_29 rfl ?_
        refine g_iconst dX3_goesAsTold_31 ic_m1 ?_
        refine g_icmp_eq 51 dX3_goesAsTold_32 (by decide) (fun c32 => ?_) (fun c32 => ?_)
        · refine g_iinc dX3_goesAsTold_51 rfl (ii_n _) (by decide) rfl ?_
          refine g_goto 2 dX3_goesAsTold_54 (by decide) ?_
          refine g_mask [true, true, true, true, false] ?_
          exact ih (by rw [hy, fst_n (by first | (simp [p_bad, c32]; done) | (rw [setg_s] at c46; simp [p_bad, c46]; done)) (by omega)])
        · refine g_iload dX3_goesAsTold_35 rfl ?_
          refine g_aload_n dX3_goesAsTold_37 rfl ?_
          refine g_getR dX3_goesAsTold_38 fl_X3_19 rfl rfl ?_
          refine g_iload_n dX3_goesAsTold_41 rfl ?_
          refine g_iconst dX3_goesAsTold_42 ic_1 ?_
          refine g_callV2i (c_X0_guestFact (w := 1) inn3 he (by decide)) mi_X0_guestFact mv_X0_guestFact ml_X3_107 dX3_goesAsTold_43 rfl rfl (by decide) (Nat.le_of_ble_eq_true rfl) (Nat.le_of_ble_eq_true rfl) ?_
          refine g_icmp_eq 51 dX3_goesAsTold_46 (by decide) (fun c46 => ?_) (fun c46 => ?_)
          · refine g_iinc dX3_goesAsTold_51 rfl (ii_n _) (by decide) rfl ?_
            refine g_goto 2 dX3_goesAsTold_54 (by decide) ?_
            refine g_mask [true, true, true, true, false] ?_
            exact ih (by rw [hy, fst_n (by first | (simp [p_bad, c32]; done) | (rw [setg_s] at c46; simp [p_bad, c46]; done)) (by omega)])
          · have fy := fst_y (p := p_bad (h 3) (h 6) j e) (k := k) (n := nL2 (h 6) j) (by rw [setg_s] at c46; simp [p_bad, c32, c46]) hk
            refine g_iconst dX3_goesAsTold_49 ic_0 ?_
            exact g_ireturn dX3_goesAsTold_50 (by rw [tld, hy, fy]; rfl) (by rw [tldT, hy, fy])
      · refine g_aload_n dX3_goesAsTold_14 rfl ?_
        refine g_getR dX3_goesAsTold_15 fl_X3_19 rfl rfl ?_
        refine g_callV0v (c_X0_passDay inn3 (by rw [setg_s]; exact h3.days _)) mi_X0_passDay mv_X0_passDay ml_X3_173 dX3_goesAsTold_18 rfl rfl (by decide) (Nat.le_of_ble_eq_true rfl) (Nat.le_of_ble_eq_true rfl) ?_
        have k0 : 0 < k := Nat.pos_of_ne_zero (fun q => c11 (by rw [q]; decide))
        refine g_h (h2 := setg h 3 (daysR (h 3) k)) (by rw [setg_s, setg_2]; obtain ⟨x, rfl⟩ : ∃ x, k = x + 1 := ⟨k - 1, by omega⟩; rfl) ?_
        first
        | (refine g_h (h2 := setg h 3 (daysR (h 3) k)) rfl ?_)
        | (have k0 : k = 0 := by
            rcases Nat.eq_zero_or_pos k with q | q
            · exact q
            · exact absurd c11 (nI_nle q (by omega))
           refine g_h (h2 := setg h 3 (daysR (h 3) k)) (by subst k0; rfl) ?_)
        refine g_aload_n dX3_goesAsTold_21 rfl ?_
        refine g_getR dX3_goesAsTold_22 fl_X3_256 (sheetAt (by omega)).1 rfl ?_
        refine g_iload_n dX3_goesAsTold_25 rfl ?_
        refine g_iald k dX3_goesAsTold_26 (sheetAt (by omega)).2 rfl (by omega) ?_
        refine g_st (st2 := [.int (sN (h 6) j k)]) (by rw [setg_n _ _ (by decide)]; rfl) ?_
        refine g_istore dX3_goesAsTold_27 (by decide) rfl ?_
        refine g_iload dX3_goesAsTold_29 rfl ?_
        refine g_iconst dX3_goesAsTold_31 ic_m1 ?_
        refine g_icmp_eq 51 dX3_goesAsTold_32 (by decide) (fun c32 => ?_) (fun c32 => ?_)
        · refine g_iinc dX3_goesAsTold_51 rfl (ii_n _) (by decide) rfl ?_
          refine g_goto 2 dX3_goesAsTold_54 (by decide) ?_
          refine g_mask [true, true, true, true, false] ?_
          exact ih (by rw [hy, fst_n (by first | (simp [p_bad, c32]; done) | (rw [setg_s] at c46; simp [p_bad, c46]; done)) (by omega)])
        · refine g_iload dX3_goesAsTold_35 rfl ?_
          refine g_aload_n dX3_goesAsTold_37 rfl ?_
          refine g_getR dX3_goesAsTold_38 fl_X3_19 rfl rfl ?_
          refine g_iload_n dX3_goesAsTold_41 rfl ?_
          refine g_iconst dX3_goesAsTold_42 ic_1 ?_
          refine g_callV2i (c_X0_guestFact (w := 1) inn3 he (by decide)) mi_X0_guestFact mv_X0_guestFact ml_X3_107 dX3_goesAsTold_43 rfl rfl (by decide) (Nat.le_of_ble_eq_true rfl) (Nat.le_of_ble_eq_true rfl) ?_
          refine g_icmp_eq 51 dX3_goesAsTold_46 (by decide) (fun c46 => ?_) (fun c46 => ?_)
          · refine g_iinc dX3_goesAsTold_51 rfl (ii_n _) (by decide) rfl ?_
            refine g_goto 2 dX3_goesAsTold_54 (by decide) ?_
            refine g_mask [true, true, true, true, false] ?_
            exact ih (by rw [hy, fst_n (by first | (simp [p_bad, c32]; done) | (rw [setg_s] at c46; simp [p_bad, c46]; done)) (by omega)])
          · have fy := fst_y (p := p_bad (h 3) (h 6) j e) (k := k) (n := nL2 (h 6) j) (by rw [setg_s] at c46; simp [p_bad, c32, c46]) hk
            refine g_iconst dX3_goesAsTold_49 ic_0 ?_
            exact g_ireturn dX3_goesAsTold_50 (by rw [tld, hy, fy]; rfl) (by rw [tldT, hy, fy])

set_option maxRecDepth 100000 in
set_option maxHeartbeats 4000000 in
theorem c_X3_goesAsTold {X : Sc} {h : Hp} (h3 : In (h 3)) (hS : InS (h 6)) {j e : Nat} (hj : j ≤ 3) (he : e < 6) : Ct X yX3_goesAsTold cX3_goesAsTold 5 (some .boolean) 4 [.ref 0, .ref (19 + 2 * j), .int (nI e)] h (some (.int (bI (tld (h 3) (h 6) j e)))) (setg h 3 (tldT (h 3) (h 6) j e)) := by
  refine ⟨rok_b _, ?_⟩
  refine g_iconst dX3_goesAsTold_0 ic_0 ?_
  refine g_istore_n dX3_goesAsTold_1 (by decide) rfl ?_
  exact g_h (setg_id h 3).symm (l_X3_goesAsTold h3 hS hj he 0 (Nat.zero_le _) rfl)

set_option maxRecDepth 100000 in
set_option maxHeartbeats 4000000 in
theorem l_X3_fits {X : Sc} {h : Hp} (hI : In (h 1)) (hS : InS (h 6))  {j : Nat} (hj : j ≤ 3) {e : Nat} (he : e < 6) : ∀ k, k ≤ 100 → Go X RX3 cX3_fits 6 5 40 [.ref 0, .int (nI j), .int (nI e), .int 0, .int (nI (cntB (fun b => tld (pG (h 1) e 0 (nI b)) (h 6) j e) k)), .int (nI k)] [] (setg h 3 (T8 (h 3) (fun k => tldT (pG (h 1) e 0 (nI k)) (h 6) j e) k)) (some (.int (nI (cntB (fun b => tld (pG (h 1) e 0 (nI b)) (h 6) j e) 100)))) (setg h 3 (T8 (h 3) (fun k => tldT (pG (h 1) e 0 (nI k)) (h 6) j e) 100)) := by
  refine loop_up (100) ?_ ?_
  · refine g_iload dX3_fits_40 rfl ?_
    refine g_bipush dX3_fits_42 bp_100 ?_
    refine g_icmp_ge 92 dX3_fits_44 (by decide) (fun c44 => ?_) (fun c44 => ?_)
    · refine g_iload dX3_fits_92 rfl ?_
      exact g_ireturn dX3_fits_94 rfl rfl
    · exact (lp_yes ((rfl : (100 : Int32) = nI 100)) (by decide) c44).elim
  · intro k hk ih
    refine g_iload dX3_fits_40 rfl ?_
    refine g_bipush dX3_fits_42 bp_100 ?_
    refine g_icmp_ge 92 dX3_fits_44 (by decide) (fun c44 => ?_) (fun c44 => ?_)
    · exact (lp_no ((rfl : (100 : Int32) = nI 100)) (by decide) hk c44).elim
    · refine g_aload_n dX3_fits_47 rfl ?_
      refine g_getR dX3_fits_48 fl_X3_19 rfl rfl ?_
      refine g_aload_n dX3_fits_51 rfl ?_
      refine g_getR dX3_fits_52 fl_X3_12 rfl rfl ?_
      refine g_callV1v (c_X0_become inn3 inn1 (by decide) (by decide)) mi_X0_become mv_X0_become ml_X3_169 dX3_fits_55 rfl rfl (by decide) (Nat.le_of_ble_eq_true rfl) (Nat.le_of_ble_eq_true rfl) ?_
      refine g_h (h2 := setg h 3 (h 1)) (by rw [setg_2, setg_n _ _ (by decide)]) ?_
      refine g_aload_n dX3_fits_58 rfl ?_
      refine g_getR dX3_fits_59 fl_X3_19 rfl rfl ?_
      refine g_iload_n dX3_fits_62 rfl ?_
      refine g_iconst dX3_fits_63 ic_0 ?_
      refine g_iload dX3_fits_64 rfl ?_
      refine g_callV3v (c_X0_putGuestFact (w := 0) inn3 he (by decide)) mi_X0_putGuestFact mv_X0_putGuestFact ml_X3_113 dX3_fits_66 rfl rfl (by decide) (Nat.le_of_ble_eq_true rfl) (Nat.le_of_ble_eq_true rfl) ?_
      refine g_h (h2 := setg h 3 (pG (h 1) e 0 (nI k))) (by rw [setg_2, setg_s]) ?_
      refine g_aload_n dX3_fits_69 rfl ?_
      refine g_aload_n dX3_fits_70 rfl ?_
      refine g_getR dX3_fits_71 fl_X3_31 rfl rfl ?_
      refine g_iload_n dX3_fits_74 rfl ?_
      refine g_aald j dX3_fits_75 rfl (by omega) ?_
      refine g_iload_n dX3_fits_76 rfl ?_
      refine g_callV2i (c_X3_goesAsTold (by rw [setg_s]; exact hI.pG he (w := 0) (by decide) (show k ≤ 99 by omega)) (by rw [setg_n _ _ (by decide)]; exact hS) hj he) mi_X3_goesAsTold mv_X3_goesAsTold ml_X3_196 dX3_fits_77 rfl rfl (by decide) (Nat.le_of_ble_eq_true rfl) (Nat.le_of_ble_eq_true rfl) ?_
      refine g_h (h2 := setg h 3 (tldT (pG (h 1) e 0 (nI k)) (h 6) j e)) (by rw [setg_2, setg_s, setg_n _ _ (by decide)]) ?_
      refine g_st (st2 := [.int (bI (tld (pG (h 1) e 0 (nI k)) (h 6) j e))]) (by rw [setg_s, setg_n _ _ (by decide)]) ?_
      refine g_if_eq 86 dX3_fits_80 (by decide) (fun c80 => ?_) (fun c80 => ?_)
      · refine g_iinc dX3_fits_86 rfl (ii_n _) (by decide) rfl ?_
        refine g_goto 40 dX3_fits_89 (by decide) ?_
        exact g_lv (by first | (rw [cntB, if_neg (by rw [b0 c80]; decide)]; rfl) | (rw [cntB, if_pos (nb0 c80)]; rfl)) ih
      · refine g_iinc dX3_fits_83 rfl (ii_n _) (by decide) rfl ?_
        refine g_iinc dX3_fits_86 rfl (ii_n _) (by decide) rfl ?_
        refine g_goto 40 dX3_fits_89 (by decide) ?_
        exact g_lv (by first | (rw [cntB, if_neg (by rw [b0 c80]; decide)]; rfl) | (rw [cntB, if_pos (nb0 c80)]; rfl)) ih

set_option maxRecDepth 100000 in
set_option maxHeartbeats 4000000 in
theorem l_X3_kinds {X : Sc} {h : Hp} (hI : In (h 1)) (hS : InS (h 6)) {d : Nat} (hd : d < 8) {j : Nat} (hj : j ≤ 3) {e : Nat} (he : e < 6) : ∀ k, k ≤ 7 → Go X RX3 cX3_kinds 7 5 54 [.ref 0, .int (nI j), .int (nI d), .int (nI e), .int 0, .int (setB (fun k => tld (pD (h 1) d 0 (nI k)) (h 6) j e) k), .int (nI k)] [] (setg h 3 (T8 (h 3) (fun k => tldT (pD (h 1) d 0 (nI k)) (h 6) j e) k)) (some (.int (setB (fun k => tld (pD (h 1) d 0 (nI k)) (h 6) j e) 7))) (setg h 3 (T8 (h 3) (fun k => tldT (pD (h 1) d 0 (nI k)) (h 6) j e) 7)) := by
  refine loop_up (7) ?_ ?_
  · refine g_iload dX3_kinds_54 rfl ?_
    refine g_bipush dX3_kinds_56 bp_7 ?_
    refine g_icmp_ge 112 dX3_kinds_58 (by decide) (fun c58 => ?_) (fun c58 => ?_)
    · refine g_iload dX3_kinds_112 rfl ?_
      exact g_ireturn dX3_kinds_114 rfl rfl
    · exact (lp_yes ((rfl : (7 : Int32) = nI 7)) (by decide) c58).elim
  · intro k hk ih
    refine g_iload dX3_kinds_54 rfl ?_
    refine g_bipush dX3_kinds_56 bp_7 ?_
    refine g_icmp_ge 112 dX3_kinds_58 (by decide) (fun c58 => ?_) (fun c58 => ?_)
    · exact (lp_no ((rfl : (7 : Int32) = nI 7)) (by decide) hk c58).elim
    · refine g_aload_n dX3_kinds_61 rfl ?_
      refine g_getR dX3_kinds_62 fl_X3_19 rfl rfl ?_
      refine g_aload_n dX3_kinds_65 rfl ?_
      refine g_getR dX3_kinds_66 fl_X3_12 rfl rfl ?_
      refine g_callV1v (c_X0_become inn3 inn1 (by decide) (by decide)) mi_X0_become mv_X0_become ml_X3_169 dX3_kinds_69 rfl rfl (by decide) (Nat.le_of_ble_eq_true rfl) (Nat.le_of_ble_eq_true rfl) ?_
      refine g_h (h2 := setg h 3 (h 1)) (by rw [setg_2, setg_n _ _ (by decide)]) ?_
      refine g_aload_n dX3_kinds_72 rfl ?_
      refine g_getR dX3_kinds_73 fl_X3_19 rfl rfl ?_
      refine g_iload_n dX3_kinds_76 rfl ?_
      refine g_iconst dX3_kinds_77 ic_0 ?_
      refine g_iload dX3_kinds_78 rfl ?_
      refine g_callV3v (c_X0_putDishFact (w := 0) inn3 hd (by decide)) mi_X0_putDishFact mv_X0_putDishFact ml_X3_98 dX3_kinds_80 rfl rfl (by decide) (Nat.le_of_ble_eq_true rfl) (Nat.le_of_ble_eq_true rfl) ?_
      refine g_h (h2 := setg h 3 (pD (h 1) d 0 (nI k))) (by rw [setg_2, setg_s]) ?_
      refine g_aload_n dX3_kinds_83 rfl ?_
      refine g_aload_n dX3_kinds_84 rfl ?_
      refine g_getR dX3_kinds_85 fl_X3_31 rfl rfl ?_
      refine g_iload_n dX3_kinds_88 rfl ?_
      refine g_aald j dX3_kinds_89 rfl (by omega) ?_
      refine g_iload_n dX3_kinds_90 rfl ?_
      refine g_callV2i (c_X3_goesAsTold (by rw [setg_s]; exact hI.pD hd (w := 0) (by decide) (show k ≤ 6 by omega)) (by rw [setg_n _ _ (by decide)]; exact hS) hj he) mi_X3_goesAsTold mv_X3_goesAsTold ml_X3_196 dX3_kinds_91 rfl rfl (by decide) (Nat.le_of_ble_eq_true rfl) (Nat.le_of_ble_eq_true rfl) ?_
      refine g_h (h2 := setg h 3 (tldT (pD (h 1) d 0 (nI k)) (h 6) j e)) (by rw [setg_2, setg_s, setg_n _ _ (by decide)]) ?_
      refine g_st (st2 := [.int (bI (tld (pD (h 1) d 0 (nI k)) (h 6) j e))]) (by rw [setg_s, setg_n _ _ (by decide)]) ?_
      refine g_if_eq 106 dX3_kinds_94 (by decide) (fun c94 => ?_) (fun c94 => ?_)
      · refine g_iinc dX3_kinds_106 rfl (ii_n _) (by decide) rfl ?_
        refine g_goto 54 dX3_kinds_109 (by decide) ?_
        exact g_lv (by first | (rw [setB, if_neg (by rw [b0 c94]; decide)]; rfl) | (rw [setB, if_pos (nb0 c94)]; rfl)) ih
      · refine g_iload dX3_kinds_97 rfl ?_
        refine g_iconst dX3_kinds_99 ic_1 ?_
        refine g_iload dX3_kinds_100 rfl ?_
        refine g_ishl dX3_kinds_102 ?_
        refine g_ior dX3_kinds_103 ?_
        refine g_istore dX3_kinds_104 (by decide) rfl ?_
        refine g_iinc dX3_kinds_106 rfl (ii_n _) (by decide) rfl ?_
        refine g_goto 54 dX3_kinds_109 (by decide) ?_
        exact g_lv (by first | (rw [setB, if_neg (by rw [b0 c94]; decide)]; rfl) | (rw [setB, if_pos (nb0 c94)]; rfl)) ih

set_option maxRecDepth 100000 in
set_option maxHeartbeats 4000000 in
theorem c_X3_fits {X : Sc} {h : Hp} (hI : In (h 1)) (hS : InS (h 6)) {s g : Int32} : Ct X yX3_fits cX3_fits 6 (some .int) 5 [.ref 0, .int s, .int g] h (some (.int (oV (f_fits (h 1) (h 6) s g)))) (hQ h (f_fits (h 1) (h 6) s g) (T8 (h 3) (fun k => tldT (pG (h 1) (tn g) 0 (nI k)) (h 6) (tn s) (tn g)) 100)) := by
  refine ⟨rfl, ?_⟩
  refine g_aload_n dX3_fits_0 rfl ?_
  refine g_iload_n dX3_fits_1 rfl ?_
  refine g_callV1i (c_X3_sheetTrouble) mi_X3_sheetTrouble mv_X3_sheetTrouble ml_X3_193 dX3_fits_2 rfl rfl (by decide) (Nat.le_of_ble_eq_true rfl) (Nat.le_of_ble_eq_true rfl) ?_
  refine g_istore_n dX3_fits_5 (by decide) rfl ?_
  refine g_iload_n dX3_fits_6 rfl ?_
  refine g_if_eq 16 dX3_fits_7 (by decide) (fun c7 => ?_) (fun c7 => ?_)
  · have tz := trb_0 c7
    obtain ⟨j, hj, tj, rfl⟩ := inB_of 3 (by decide) tz.1
    refine g_aload_n dX3_fits_16 rfl ?_
    refine g_getR dX3_fits_17 fl_X3_12 rfl rfl ?_
    refine g_iload_n dX3_fits_20 rfl ?_
    refine g_callV1i (c_X0_isGuest inn1) mi_X0_isGuest mv_X0_isGuest ml_X3_101 dX3_fits_21 rfl rfl (by decide) (Nat.le_of_ble_eq_true rfl) (Nat.le_of_ble_eq_true rfl) ?_
    refine g_if_ne 34 dX3_fits_24 (by decide) (fun c24 => ?_) (fun c24 => ?_)
    · obtain ⟨e, le, he, te, rfl⟩ := isG_of2 hI (nb0 c24)
      refine g_iconst dX3_fits_34 ic_0 ?_
      refine g_istore dX3_fits_35 (by decide) rfl ?_
      refine g_iconst dX3_fits_37 ic_0 ?_
      refine g_istore dX3_fits_38 (by decide) rfl ?_
      have ef : f_fits (h 1) (h 6) (nI j) (nI e) = .inr (nI (cntB (fun b => tld (pG (h 1) e 0 (nI b)) (h 6) j e) 100), h 1) := by rw [f_fits, onS_ok tz, if_pos (nb0 c24), tj, te]
      rw [tj, te, ← hQ_v h _ ef, ef]
      simp only [oV]
      rw [c7]
      exact g_h (setg_id h 3).symm (l_X3_fits hI hS hj he 0 (by decide))
    · refine g_aload_n dX3_fits_27 rfl ?_
      refine g_ldc dX3_fits_28 lc_X3_52 ?_
      refine g_callV1i (c_X3_found 0 (by decide) (by decide)) mi_X3_found mv_X3_found ml_X3_53 dX3_fits_30 rfl rfl (by decide) (Nat.le_of_ble_eq_true rfl) (Nat.le_of_ble_eq_true rfl) ?_
      exact g_ireturn dX3_fits_33 (by rw [f_fits, onS_ok tz, if_neg (by rw [b0 c24]; decide)]; rfl) (hQ_0 _ _ (by rw [f_fits, onS_ok tz, if_neg (by rw [b0 c24]; decide)]))
  · refine g_aload_n dX3_fits_10 rfl ?_
    refine g_iload_n dX3_fits_11 rfl ?_
    refine g_callV1i (c_X3_found (if inB s 0 3 = true then 5 else 0) (by split <;> decide) (trb_k c7)) mi_X3_found mv_X3_found ml_X3_53 dX3_fits_12 rfl rfl (by decide) (Nat.le_of_ble_eq_true rfl) (Nat.le_of_ble_eq_true rfl) ?_
    exact g_ireturn dX3_fits_15 (by rw [f_fits, ← (trb_f c7 _).2]) (by refine hQ_k _ _ _ ?_ (trb_f c7 _).1; split <;> decide)

set_option maxRecDepth 100000 in
set_option maxHeartbeats 4000000 in
theorem c_X3_kinds {X : Sc} {h : Hp} (hI : In (h 1)) (hS : InS (h 6)) {s d g : Int32} : Ct X yX3_kinds cX3_kinds 7 (some .int) 5 [.ref 0, .int s, .int d, .int g] h (some (.int (oV (f_kinds (h 1) (h 6) s d g)))) (hQ h (f_kinds (h 1) (h 6) s d g) (T8 (h 3) (fun k => tldT (pD (h 1) (tn d) 0 (nI k)) (h 6) (tn s) (tn g)) 7)) := by
  refine ⟨rfl, ?_⟩
  refine g_aload_n dX3_kinds_0 rfl ?_
  refine g_iload_n dX3_kinds_1 rfl ?_
  refine g_callV1i (c_X3_sheetTrouble) mi_X3_sheetTrouble mv_X3_sheetTrouble ml_X3_193 dX3_kinds_2 rfl rfl (by decide) (Nat.le_of_ble_eq_true rfl) (Nat.le_of_ble_eq_true rfl) ?_
  refine g_istore dX3_kinds_5 (by decide) rfl ?_
  refine g_iload dX3_kinds_7 rfl ?_
  refine g_if_eq 19 dX3_kinds_9 (by decide) (fun c9 => ?_) (fun c9 => ?_)
  · have tz := trb_0 c9
    obtain ⟨j, hj, tj, rfl⟩ := inB_of 3 (by decide) tz.1
    refine g_aload_n dX3_kinds_19 rfl ?_
    refine g_getR dX3_kinds_20 fl_X3_12 rfl rfl ?_
    refine g_iload_n dX3_kinds_23 rfl ?_
    refine g_callV1i (c_X0_isDish inn1) mi_X0_isDish mv_X0_isDish ml_X3_88 dX3_kinds_24 rfl rfl (by decide) (Nat.le_of_ble_eq_true rfl) (Nat.le_of_ble_eq_true rfl) ?_
    refine g_if_eq 41 dX3_kinds_27 (by decide) (fun c27 => ?_) (fun c27 => ?_)
    · refine g_aload_n dX3_kinds_41 rfl ?_
      refine g_ldc dX3_kinds_42 lc_X3_52 ?_
      refine g_callV1i (c_X3_found 0 (by decide) (by decide)) mi_X3_found mv_X3_found ml_X3_53 dX3_kinds_44 rfl rfl (by decide) (Nat.le_of_ble_eq_true rfl) (Nat.le_of_ble_eq_true rfl) ?_
      exact g_ireturn dX3_kinds_47 (by rw [f_kinds, onS_ok tz, if_neg (by first | (simp [b0 c27]; done) | (simp [b0 c38]; done))]; rfl) (hQ_0 _ _ (by rw [f_kinds, onS_ok tz, if_neg (by first | (simp [b0 c27]; done) | (simp [b0 c38]; done))]))
    · refine g_aload_n dX3_kinds_30 rfl ?_
      refine g_getR dX3_kinds_31 fl_X3_12 rfl rfl ?_
      refine g_iload_n dX3_kinds_34 rfl ?_
      refine g_callV1i (c_X0_isGuest inn1) mi_X0_isGuest mv_X0_isGuest ml_X3_101 dX3_kinds_35 rfl rfl (by decide) (Nat.le_of_ble_eq_true rfl) (Nat.le_of_ble_eq_true rfl) ?_
      refine g_if_ne 48 dX3_kinds_38 (by decide) (fun c38 => ?_) (fun c38 => ?_)
      · obtain ⟨i, li, hi, ti, rfl⟩ := isD_of2 hI (nb0 c27)
        obtain ⟨e, le, he, te, rfl⟩ := isG_of2 hI (nb0 c38)
        refine g_iconst dX3_kinds_48 ic_0 ?_
        refine g_istore dX3_kinds_49 (by decide) rfl ?_
        refine g_iconst dX3_kinds_51 ic_0 ?_
        refine g_istore dX3_kinds_52 (by decide) rfl ?_
        have ef : f_kinds (h 1) (h 6) (nI j) (nI i) (nI e) = .inr (setB (fun k => tld (pD (h 1) i 0 (nI k)) (h 6) j e) 7, h 1) := by rw [f_kinds, onS_ok tz, if_pos (by rw [nb0 c27, nb0 c38]; rfl), tj, te, ti]
        rw [tj, te, ti, ← hQ_v h _ ef, ef]
        simp only [oV]
        rw [c9]
        exact g_h (setg_id h 3).symm (l_X3_kinds hI hS hi hj he 0 (by decide))
      · refine g_aload_n dX3_kinds_41 rfl ?_
        refine g_ldc dX3_kinds_42 lc_X3_52 ?_
        refine g_callV1i (c_X3_found 0 (by decide) (by decide)) mi_X3_found mv_X3_found ml_X3_53 dX3_kinds_44 rfl rfl (by decide) (Nat.le_of_ble_eq_true rfl) (Nat.le_of_ble_eq_true rfl) ?_
        exact g_ireturn dX3_kinds_47 (by rw [f_kinds, onS_ok tz, if_neg (by first | (simp [b0 c27]; done) | (simp [b0 c38]; done))]; rfl) (hQ_0 _ _ (by rw [f_kinds, onS_ok tz, if_neg (by first | (simp [b0 c27]; done) | (simp [b0 c38]; done))]))
  · refine g_aload_n dX3_kinds_12 rfl ?_
    refine g_iload dX3_kinds_13 rfl ?_
    refine g_callV1i (c_X3_found (if inB s 0 3 = true then 5 else 0) (by split <;> decide) (trb_k c9)) mi_X3_found mv_X3_found ml_X3_53 dX3_kinds_15 rfl rfl (by decide) (Nat.le_of_ble_eq_true rfl) (Nat.le_of_ble_eq_true rfl) ?_
    exact g_ireturn dX3_kinds_18 (by rw [f_kinds, ← (trb_f c9 _).2]) (by refine hQ_k _ _ _ ?_ (trb_f c9 _).1; split <;> decide)

/-- a byte more on the tape -/
def tpL (t : Rw) : Nat := (t 0).toNatClampNeg
def app (t : Rw) (v : Int32) : Rw := upd (upd t (10 + tpL t) v) 0 (t 0 + 1)
def feedC (b : Int32) : Nat → Rw → Rw
  | 0, t => t
  | n + 1, t => feedC b n (app t (b >>> (8 * nI n &&& 31)).toInt8.toInt32)
def InT (t : Rw) : Prop := tpL t ≤ 120 ∧ t 0 = nI (tpL t)
theorem app_L {t : Rw} (h : InT t) (v : Int32) (hl : tpL t < 120) : InT (app t v) ∧ tpL (app t v) = tpL t + 1 := by
  have e : app t v 0 = nI (tpL t + 1) := by unfold app; rw [upd_s, h.2, nI_1]
  have e2 : tpL (app t v) = tpL t + 1 := by
    show ((app t v) 0).toNatClampNeg = _
    rw [e]; exact nI_clamp (by omega)
  exact ⟨⟨by omega, by rw [e, e2]⟩, e2⟩
theorem i8_2 (x : Int32) : x.toInt8.toInt32.toInt8.toInt32 = x.toInt8.toInt32 := by
  have := pk_vb x
  rw [vp_nar_byte] at this
  exact this
def f_feed (t : Rw) (b n : Int32) : Oc := if inB n 1 4 then (if t 0 + n ≤ 120 then .inr (feedC b (tn n) t 0, feedC b (tn n) t) else .inl 1) else .inl 0
set_option maxRecDepth 100000 in
set_option maxHeartbeats 4000000 in
theorem c_X2_addByte {X : Sc} {h : Hp} (hT : InT (h 4)) (hl : tpL (h 4) < 120) {v : Int32} (hv : v.toInt8.toInt32 = v) : Ct X yX2_addByte cX2_addByte 2 none 0 [.ref 16, .int v] h none (setg h 4 (app (h 4) v)) := by
  refine ⟨trivial, ?_⟩
  refine g_aload_n dX2_addByte_0 rfl ?_
  refine g_getI dX2_addByte_1 fl_X2_13 rfl rfl ?_
  refine g_bipush dX2_addByte_4 bp_120 ?_
  refine g_icmp_ge 29 dX2_addByte_6 (by decide) (fun c6 => ?_) (fun c6 => ?_)
  · exact absurd (by rw [hT.2]; exact nI_lt (b := 120) hl (by decide)) (Int32.not_lt.mpr c6)
  · refine g_aload_n dX2_addByte_9 rfl ?_
    refine g_getR dX2_addByte_10 fl_X2_9 rfl rfl ?_
    refine g_aload_n dX2_addByte_13 rfl ?_
    refine g_getI dX2_addByte_14 fl_X2_13 rfl rfl ?_
    refine g_st (st2 := [.int (nI (tpL (h 4))), .ref 17]) (by rw [← hT.2]) ?_
    refine g_iload_n dX2_addByte_17 rfl ?_
    refine g_bast (tpL (h 4)) dX2_addByte_18 rfl rfl hl hv ?_
    refine g_aload_n dX2_addByte_19 rfl ?_
    refine g_dup dX2_addByte_20 rfl ?_
    refine g_getI dX2_addByte_21 fl_X2_13 rfl rfl ?_
    refine g_iconst dX2_addByte_24 ic_1 ?_
    refine g_iadd dX2_addByte_25 ?_
    refine g_putI dX2_addByte_26 fl_X2_13 fp_2_1 rfl rfl ?_
    exact g_return dX2_addByte_29 rfl (by rw [up_setg, up_setg, setg_s, setg_2, upd_n _ _ (by omega)]; rfl)

set_option maxRecDepth 100000 in
set_option maxHeartbeats 4000000 in
theorem l_X3_feed {X : Sc} {b z : Int32} : ∀ (n : Nat) (h : Hp), n ≤ 4 → InT (h 4) → tpL (h 4) + n ≤ 120 → Go X RX3 cX3_feed 4 2 41 [.ref 0, .int b, .int z, .int (nI n - 1)] [] h (some (.int (feedC b n (h 4) 0))) (setg h 4 (feedC b n (h 4))) := by
  intro n
  induction n with
  | zero =>
    intro h h4 hT hl
    refine g_iload_n dX3_feed_41 rfl ?_
    refine g_if_lt 65 dX3_feed_42 (by decide) (fun c42 => ?_) (fun c42 => ?_)
    · refine g_aload_n dX3_feed_65 rfl ?_
      refine g_getR dX3_feed_66 fl_X3_25 rfl rfl ?_
      refine g_getI dX3_feed_69 fl_X3_213 rfl rfl ?_
      exact g_ireturn dX3_feed_72 rfl (setg_id h 4).symm
    · exact absurd (by decide) c42
  | succ n ih =>
    intro h h4 hT hl
    refine g_iload_n dX3_feed_41 rfl ?_
    have e1 : nI (n + 1) - 1 = nI n := nI_pred n
    refine g_if_lt 65 dX3_feed_42 (by decide) (fun c42 => ?_) (fun c42 => ?_)
    · exact absurd c42 (by rw [e1]; exact nI_pos (by omega))
    · refine g_lv (lv2 := [.ref 0, .int b, .int z, .int (nI n)]) (by rw [e1]) ?_
      refine g_aload_n dX3_feed_45 rfl ?_
      refine g_getR dX3_feed_46 fl_X3_25 rfl rfl ?_
      refine g_iload_n dX3_feed_49 rfl ?_
      refine g_bipush dX3_feed_50 bp_8 ?_
      refine g_iload_n dX3_feed_52 rfl ?_
      refine g_imul dX3_feed_53 ?_
      refine g_ishr dX3_feed_54 ?_
      refine g_i2b dX3_feed_55 ?_
      refine g_callV1v (c_X2_addByte hT (by omega) (i8_2 _)) mi_X2_addByte mv_X2_addByte ml_X3_216 dX3_feed_56 rfl rfl (by decide) (Nat.le_of_ble_eq_true rfl) (Nat.le_of_ble_eq_true rfl) ?_
      refine g_iinc dX3_feed_59 rfl (ii_m1 _) (by decide) rfl ?_
      refine g_goto 41 dX3_feed_62 (by decide) ?_
      have hA := app_L hT (b >>> (8 * nI n &&& 31)).toInt8.toInt32 (by omega)
      have q := ih (setg h 4 (app (h 4) (b >>> (8 * nI n &&& 31)).toInt8.toInt32)) (by omega) (by rw [setg_s]; exact hA.1) (by rw [setg_s, hA.2]; omega)
      rw [setg_s, setg_2] at q
      exact g_lv (by rw [Int32.sub_eq_add_neg]; rfl) q
set_option maxRecDepth 100000 in
set_option maxHeartbeats 4000000 in
theorem c_X3_feed {X : Sc} {h : Hp} (hT : InT (h 4)) {b n : Int32} : Ct X yX3_feed cX3_feed 4 (some .int) 2 [.ref 0, .int b, .int n] h (some (.int (oV (f_feed (h 4) b n)))) (oG 4 5 h (f_feed (h 4) b n)) := by
  refine ⟨rfl, ?_⟩
  refine g_iload_n dX3_feed_0 rfl ?_
  refine g_iconst dX3_feed_1 ic_1 ?_
  refine g_iconst dX3_feed_2 ic_4 ?_
  refine g_callS3i (c_X3_within) mi_X3_within ms_X3_within ml_X3_48 dX3_feed_3 (by decide) (Nat.le_of_ble_eq_true rfl) (Nat.le_of_ble_eq_true rfl) ?_
  refine g_if_ne 16 dX3_feed_6 (by decide) (fun c6 => ?_) (fun c6 => ?_)
  · obtain ⟨j, l1, hj, tj, rfl⟩ := inB_of1 4 (by decide) (nb0 c6)
    refine g_aload_n dX3_feed_16 rfl ?_
    refine g_getR dX3_feed_17 fl_X3_25 rfl rfl ?_
    refine g_getI dX3_feed_20 fl_X3_213 rfl rfl ?_
    refine g_iload_n dX3_feed_23 rfl ?_
    refine g_iadd dX3_feed_24 ?_
    refine g_bipush dX3_feed_25 bp_120 ?_
    refine g_icmp_le 37 dX3_feed_27 (by decide) (fun c27 => ?_) (fun c27 => ?_)
    · refine g_iload_n dX3_feed_37 rfl ?_
      refine g_iconst dX3_feed_38 ic_1 ?_
      refine g_isub dX3_feed_39 ?_
      refine g_istore_n dX3_feed_40 (by decide) rfl ?_
      have hl : tpL (h 4) + j ≤ 120 := by
        have q : nI (tpL (h 4) + j) ≤ 120 := by rw [← nI_add, ← hT.2]; exact c27
        have hb := hT.1
        exact (nI_leI (a := tpL (h 4) + j) (b := 120) (by omega) (by decide)).mp q
      rw [f_feed, if_pos (nb0 c6), if_pos c27, tj]
      simp only [oV, oG]
      exact l_X3_feed j h (by omega) hT hl
    · refine g_aload_n dX3_feed_30 rfl ?_
      refine g_ldc dX3_feed_31 lc_X3_74 ?_
      refine g_callV1i (c_X3_found 1 (by decide) (by decide)) mi_X3_found mv_X3_found ml_X3_53 dX3_feed_33 rfl rfl (by decide) (Nat.le_of_ble_eq_true rfl) (Nat.le_of_ble_eq_true rfl) ?_
      exact g_ireturn dX3_feed_36 (by rw [f_feed, if_pos (nb0 c6), if_neg c27]; rfl) (by rw [f_feed, if_pos (nb0 c6), if_neg c27]; rfl)
  · refine g_aload_n dX3_feed_9 rfl ?_
    refine g_ldc dX3_feed_10 lc_X3_52 ?_
    refine g_callV1i (c_X3_found 0 (by decide) (by decide)) mi_X3_found mv_X3_found ml_X3_53 dX3_feed_12 rfl rfl (by decide) (Nat.le_of_ble_eq_true rfl) (Nat.le_of_ble_eq_true rfl) ?_
    exact g_ireturn dX3_feed_15 (by simp_all [f_feed, oV, fvl_0, bI_0]) (by simp_all [f_feed, oG, bI_0])

