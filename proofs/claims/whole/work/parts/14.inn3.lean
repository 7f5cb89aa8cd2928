/-! THE INN: pairs, copies, kinds -/
theorem parI_0 (m : Rw) (a : Nat) : ∀ n, n ≤ a + 1 → parI m a n = 0
  | 0, _ => rfl
  | n + 1, h => by
    unfold parI
    rw [if_neg (by omega)]
    exact parI_0 m a n (by omega)
set_option maxRecDepth 100000 in
set_option maxHeartbeats 4000000 in
theorem i_X0_partedPairs {X : Sc} {h : Hp} {b g : Nat} (hb : InnAt b g) (hI : In (h g)) {a p0 : Nat} (ha : a < nG (h g)) {r : Option Value} (K : Go X RX0 cX0_partedPairs 4 1 48 [.ref b, .int (nI (p0 + parI (h g) a (nG (h g)))), .int (nI a), .int (nI (nG (h g)))] [] h r h) : ∀ k, k ≤ nG (h g) → a < k → Go X RX0 cX0_partedPairs 4 1 16 [.ref b, .int (nI (p0 + parI (h g) a k)), .int (nI a), .int (nI k)] [] h r h := by
  have hN := hI.nG.1
  refine loop_up (nG (h g)) ?_ ?_
  · intro hy
    refine g_iload_n dX0_partedPairs_16 rfl ?_
    refine g_aload_n dX0_partedPairs_17 rfl ?_
    refine g_getI dX0_partedPairs_18 fl_X0_37 hb.1 rfl ?_
    refine g_icmp_ge 48 dX0_partedPairs_21 (by decide) (fun c21 => ?_) (fun c21 => ?_)
    · exact K
    · exact (lp_yes (hI.nG.2) (by omega) c21).elim
  · intro k hk ih hy
    refine g_iload_n dX0_partedPairs_16 rfl ?_
    refine g_aload_n dX0_partedPairs_17 rfl ?_
    refine g_getI dX0_partedPairs_18 fl_X0_37 hb.1 rfl ?_
    refine g_icmp_ge 48 dX0_partedPairs_21 (by decide) (fun c21 => ?_) (fun c21 => ?_)
    · exact (lp_no (hI.nG.2) (by omega) hk c21).elim
    · refine g_aload_n dX0_partedPairs_24 rfl ?_
      refine g_iload_n dX0_partedPairs_25 rfl ?_
      refine g_iconst dX0_partedPairs_26 ic_1 ?_
      first
      | refine g_callV2i (c_X0_guestFact (e := a) (w := 1) hb (by omega) (by decide)) mi_X0_guestFact mv_X0_guestFact ml_X0_57 dX0_partedPairs_27 hb.1 rfl (by decide) (Nat.le_of_ble_eq_true rfl) (Nat.le_of_ble_eq_true rfl) ?_
      | refine g_callV2i (c_X0_guestFact (e := k) (w := 1) hb (by omega) (by decide)) mi_X0_guestFact mv_X0_guestFact ml_X0_57 dX0_partedPairs_27 hb.1 rfl (by decide) (Nat.le_of_ble_eq_true rfl) (Nat.le_of_ble_eq_true rfl) ?_
      refine g_aload_n dX0_partedPairs_30 rfl ?_
      refine g_iload_n dX0_partedPairs_31 rfl ?_
      refine g_iconst dX0_partedPairs_32 ic_1 ?_
      first
      | refine g_callV2i (c_X0_guestFact (e := a) (w := 1) hb (by omega) (by decide)) mi_X0_guestFact mv_X0_guestFact ml_X0_57 dX0_partedPairs_33 hb.1 rfl (by decide) (Nat.le_of_ble_eq_true rfl) (Nat.le_of_ble_eq_true rfl) ?_
      | refine g_callV2i (c_X0_guestFact (e := k) (w := 1) hb (by omega) (by decide)) mi_X0_guestFact mv_X0_guestFact ml_X0_57 dX0_partedPairs_33 hb.1 rfl (by decide) (Nat.le_of_ble_eq_true rfl) (Nat.le_of_ble_eq_true rfl) ?_
      refine g_icmp_eq 42 dX0_partedPairs_36 (by decide) (fun c36 => ?_) (fun c36 => ?_)
      · refine g_iinc dX0_partedPairs_42 rfl (ii_n _) (by decide) rfl ?_
        refine g_goto 16 dX0_partedPairs_45 (by decide) ?_
        exact g_lv (by first | (rw [parI, if_neg (fun q => q.2 c36)]; rfl) | (rw [parI, if_pos ⟨hy, c36⟩]; rfl)) (ih (by omega))
      · refine g_iinc dX0_partedPairs_39 rfl (ii_n _) (by decide) rfl ?_
        refine g_iinc dX0_partedPairs_42 rfl (ii_n _) (by decide) rfl ?_
        refine g_goto 16 dX0_partedPairs_45 (by decide) ?_
        exact g_lv (by first | (rw [parI, if_neg (fun q => q.2 c36)]; rfl) | (rw [parI, if_pos ⟨hy, c36⟩]; rfl)) (ih (by omega))

set_option maxRecDepth 100000 in
set_option maxHeartbeats 4000000 in
theorem l_X0_partedPairs {X : Sc} {h : Hp} {b g : Nat} (hb : InnAt b g) (hI : In (h g)) : ∀ k, k ≤ nG (h g) → Go X RX0 cX0_partedPairs 4 1 4 [.ref b, .int (nI (parO (h g) (nG (h g)) k)), .int (nI k), .null] [] h (some (.int (nI (parO (h g) (nG (h g)) (nG (h g)))))) h := by
  have hN := hI.nG.1
  refine loop_up (nG (h g)) ?_ ?_
  · refine g_iload_n dX0_partedPairs_4 rfl ?_
    refine g_aload_n dX0_partedPairs_5 rfl ?_
    refine g_getI dX0_partedPairs_6 fl_X0_37 hb.1 rfl ?_
    refine g_icmp_ge 54 dX0_partedPairs_9 (by decide) (fun c9 => ?_) (fun c9 => ?_)
    · refine g_iload_n dX0_partedPairs_54 rfl ?_
      exact g_ireturn dX0_partedPairs_55 rfl rfl
    · exact (lp_yes (hI.nG.2) (by omega) c9).elim
  · intro k hk ih
    refine g_iload_n dX0_partedPairs_4 rfl ?_
    refine g_aload_n dX0_partedPairs_5 rfl ?_
    refine g_getI dX0_partedPairs_6 fl_X0_37 hb.1 rfl ?_
    refine g_icmp_ge 54 dX0_partedPairs_9 (by decide) (fun c9 => ?_) (fun c9 => ?_)
    · exact (lp_no (hI.nG.2) (by omega) hk c9).elim
    · refine g_iload_n dX0_partedPairs_12 rfl ?_
      refine g_iconst dX0_partedPairs_13 ic_1 ?_
      refine g_iadd dX0_partedPairs_14 ?_
      refine g_istore_n dX0_partedPairs_15 (by decide) rfl ?_
      refine g_lv (by rw [nI_1]) (i_X0_partedPairs (p0 := parO (h g) (nG (h g)) k) hb hI hk ?_ (k + 1) (by omega) (by omega) |> fun q => by rw [parI_0 _ _ _ (Nat.le_refl _)] at q; exact q)
      refine g_iinc dX0_partedPairs_48 rfl (ii_n _) (by decide) rfl ?_
      refine g_goto 4 dX0_partedPairs_51 (by decide) ?_
      refine g_mask [true, true, true, false] ?_
      exact ih

set_option maxRecDepth 100000 in
set_option maxHeartbeats 4000000 in
theorem c_X0_partedPairs {X : Sc} {h : Hp} {b g : Nat} (hb : InnAt b g) (hI : In (h g)) : Ct X yX0_partedPairs cX0_partedPairs 4 (some .int) 1 [.ref b] h (some (.int (nI (parO (h g) (nG (h g)) (nG (h g)))))) h := by
  refine ⟨rfl, ?_⟩
  refine g_iconst dX0_partedPairs_0 ic_0 ?_
  refine g_istore_n dX0_partedPairs_1 (by decide) rfl ?_
  refine g_iconst dX0_partedPairs_2 ic_0 ?_
  refine g_istore_n dX0_partedPairs_3 (by decide) rfl ?_
  exact l_X0_partedPairs hb hI 0 (Nat.zero_le _)

/-- a group that is a row -/
def rowB (g : Nat) : Bool := (List.elem g [1, 2, 3, 11, 12, 13])
def shpRow : Bool := shp.all fun s => (occ s).all fun q => !rowB q.1 || Nat.ble (q.2.1 + q.2.2) 98
theorem shpRow_ok : shpRow = true := by decide +kernel
theorem heq_row {h1 h2 : Hp} {g : Nat} (hg : rowB g = true) (ho : ∀ a, a ≠ g → h1 a = h2 a) (hk : ∀ k, k < 98 → h1 g k = h2 g k) : heq h1 h2 := by
  intro i s hi a k ⟨q, hq, q1, q2, q3⟩
  by_cases e : a = g
  · subst e
    refine hk k ?_
    have h3 := List.all_eq_true.mp (List.all_eq_true.mp shpRow_ok s (List.mem_of_getElem? hi)) q hq
    rw [q1, hg] at h3
    have := Nat.le_of_ble_eq_true (by simpa using h3)
    omega
  · rw [ho a e]
theorem cpy_in (h : Hp) {gs so gd dO n k : Nat} (h1 : dO ≤ k) (h2 : k < dO + n) : cpy h gs so gd dO n gd k = h gs (so + (k - dO)) := by
  unfold cpy; rw [if_pos ⟨rfl, h1, h2⟩]
theorem cpy_no (h : Hp) {gs so gd dO n a k : Nat} (h1 : ¬ (a = gd ∧ dO ≤ k ∧ k < dO + n)) : cpy h gs so gd dO n a k = h a k := by
  unfold cpy; rw [if_neg h1]
theorem become_row (h : Hp) {g g2 : Nat} (n : g2 ≠ g) (C : Hp) (eC : C = cpy (cpy (cpy (cpy h g2 (4 + 0) g (4 + 0) 6) g2 (10 + 0) g (10 + 0) 48) g2 (58 + 0) g (58 + 0) 30) g2 (88 + 0) g (88 + 0) 10) (F : Hp) (eF : F = up (up (up (up C g 2 (C g2 2)) g 3 (C g2 3)) g 0 (C g2 0)) g 1 (C g2 1)) (hg : rowB g = true) : heq F (setg h g (h g2)) := by
  have hC : ∀ a, a ≠ g → ∀ k, C a k = h a k := by
    intro a ha k
    rw [eC, cpy_no _ (fun q => ha q.1), cpy_no _ (fun q => ha q.1), cpy_no _ (fun q => ha q.1), cpy_no _ (fun q => ha q.1)]
  refine heq_row hg (fun a ha => ?_) (fun k hk => ?_)
  · rw [setg_n _ _ ha]
    funext k
    rw [eF, up_n _ _ (fun q => ha q.1), up_n _ _ (fun q => ha q.1), up_n _ _ (fun q => ha q.1), up_n _ _ (fun q => ha q.1), hC a ha]
  · rw [setg_s, eF]
    by_cases k1 : k = 1
    · subst k1; rw [up_s, hC g2 n]
    · rw [up_n _ _ (fun q => k1 q.2)]
      by_cases k0 : k = 0
      · subst k0; rw [up_s, hC g2 n]
      · rw [up_n _ _ (fun q => k0 q.2)]
        by_cases k3 : k = 3
        · subst k3; rw [up_s, hC g2 n]
        · rw [up_n _ _ (fun q => k3 q.2)]
          by_cases k2 : k = 2
          · subst k2; rw [up_s, hC g2 n]
          · rw [up_n _ _ (fun q => k2 q.2), eC]
            by_cases h4 : 88 ≤ k
            · rw [cpy_in _ (by omega) (by omega), cpy_no _ (fun q => n q.1), cpy_no _ (fun q => n q.1), cpy_no _ (fun q => n q.1), show 88 + 0 + (k - (88 + 0)) = k by omega]
            · rw [cpy_no _ (by omega)]
              by_cases h3 : 58 ≤ k
              · rw [cpy_in _ (by omega) (by omega), cpy_no _ (fun q => n q.1), cpy_no _ (fun q => n q.1), show 58 + 0 + (k - (58 + 0)) = k by omega]
              · rw [cpy_no _ (by omega)]
                by_cases h2 : 10 ≤ k
                · rw [cpy_in _ (by omega) (by omega), cpy_no _ (fun q => n q.1), show 10 + 0 + (k - (10 + 0)) = k by omega]
                · rw [cpy_no _ (by omega), cpy_in _ (by omega) (by omega), show 4 + 0 + (k - (4 + 0)) = k by omega]
set_option maxRecDepth 100000 in
set_option maxHeartbeats 4000000 in
theorem c0_X0_become {X : Sc} {h : Hp} {b g b2 g2 : Nat} (hb : InnAt b g) (hb2 : InnAt b2 g2) (C : Hp) (eC : C = cpy (cpy (cpy (cpy h g2 (4 + 0) g (4 + 0) 6) g2 (10 + 0) g (10 + 0) 48) g2 (58 + 0) g (58 + 0) 30) g2 (88 + 0) g (88 + 0) 10) (hn : g2 ≠ g) : Ct X yX0_become cX0_become 2 none 1 [.ref b, .ref b2] h none (up (up (up (up C g 2 (C g2 2)) g 3 (C g2 3)) g 0 (C g2 0)) g 1 (C g2 1)) := by
  refine ⟨trivial, ?_⟩
  refine g_aload_n dX0_become_0 rfl ?_
  refine g_getR dX0_become_1 fl_X0_11 hb2.1 rfl ?_
  refine g_iconst dX0_become_4 ic_0 ?_
  refine g_aload_n dX0_become_5 rfl ?_
  refine g_getR dX0_become_6 fl_X0_11 hb.1 rfl ?_
  refine g_iconst dX0_become_9 ic_0 ?_
  refine g_bipush dX0_become_10 bp_6 ?_
  refine g_copy 0 0 6 dX0_become_12 hb2.2.1 hb.2.1 rfl rfl rfl (by decide) (by decide) ml_X0_28 acN acS acI (by decide) (Nat.le_of_ble_eq_true rfl) ?_
  refine g_aload_n dX0_become_15 rfl ?_
  refine g_getR dX0_become_16 fl_X0_15 hb2.1 rfl ?_
  refine g_iconst dX0_become_19 ic_0 ?_
  refine g_aload_n dX0_become_20 rfl ?_
  refine g_getR dX0_become_21 fl_X0_15 hb.1 rfl ?_
  refine g_iconst dX0_become_24 ic_0 ?_
  refine g_bipush dX0_become_25 bp_48 ?_
  refine g_copy 0 0 48 dX0_become_27 hb2.2.2.1 hb.2.2.1 rfl rfl rfl (by decide) (by decide) ml_X0_28 acN acS acI (by decide) (Nat.le_of_ble_eq_true rfl) ?_
  refine g_aload_n dX0_become_30 rfl ?_
  refine g_getR dX0_become_31 fl_X0_18 hb2.1 rfl ?_
  refine g_iconst dX0_become_34 ic_0 ?_
  refine g_aload_n dX0_become_35 rfl ?_
  refine g_getR dX0_become_36 fl_X0_18 hb.1 rfl ?_
  refine g_iconst dX0_become_39 ic_0 ?_
  refine g_bipush dX0_become_40 bp_30 ?_
  refine g_copy 0 0 30 dX0_become_42 hb2.2.2.2.1 hb.2.2.2.1 rfl rfl rfl (by decide) (by decide) ml_X0_28 acN acS acI (by decide) (Nat.le_of_ble_eq_true rfl) ?_
  refine g_aload_n dX0_become_45 rfl ?_
  refine g_getR dX0_become_46 fl_X0_21 hb2.1 rfl ?_
  refine g_iconst dX0_become_49 ic_0 ?_
  refine g_aload_n dX0_become_50 rfl ?_
  refine g_getR dX0_become_51 fl_X0_21 hb.1 rfl ?_
  refine g_iconst dX0_become_54 ic_0 ?_
  refine g_bipush dX0_become_55 bp_10 ?_
  refine g_copy 0 0 10 dX0_become_57 hb2.2.2.2.2 hb.2.2.2.2 rfl rfl rfl (by decide) (by decide) ml_X0_28 acN acS acI (by decide) (Nat.le_of_ble_eq_true rfl) ?_
  refine g_aload_n dX0_become_60 rfl ?_
  refine g_aload_n dX0_become_61 rfl ?_
  refine g_getI dX0_become_62 fl_X0_34 hb2.1 rfl ?_
  refine g_putI dX0_become_65 fl_X0_34 fp_0_4 hb.1 rfl ?_
  refine g_aload_n dX0_become_68 rfl ?_
  refine g_aload_n dX0_become_69 rfl ?_
  refine g_getI dX0_become_70 fl_X0_37 hb2.1 rfl ?_
  refine g_putI dX0_become_73 fl_X0_37 fp_0_5 hb.1 rfl ?_
  refine g_aload_n dX0_become_76 rfl ?_
  refine g_aload_n dX0_become_77 rfl ?_
  refine g_getI dX0_become_78 fl_X0_40 hb2.1 rfl ?_
  refine g_putI dX0_become_81 fl_X0_40 fp_0_6 hb.1 rfl ?_
  refine g_aload_n dX0_become_84 rfl ?_
  refine g_aload_n dX0_become_85 rfl ?_
  refine g_getI dX0_become_86 fl_X0_24 hb2.1 rfl ?_
  refine g_putI dX0_become_89 fl_X0_24 fp_0_7 hb.1 rfl ?_
  exact g_return dX0_become_92 rfl (by rw [← eC, up_n _ _ (fun q => hn q.1), up_n _ _ (fun q => hn q.1), up_n _ _ (fun q => hn q.1), up_n _ _ (fun q => hn q.1), up_n _ _ (fun q => hn q.1), up_n _ _ (fun q => hn q.1)])

theorem c_X0_become {X : Sc} {h : Hp} {b g b2 g2 : Nat} (hb : InnAt b g) (hb2 : InnAt b2 g2) (hn : g2 ≠ g) (hg : rowB g = true) : Ct X yX0_become cX0_become 2 none 1 [.ref b, .ref b2] h none (setg h g (h g2)) :=
  (c0_X0_become hb hb2 _ rfl hn).heq (become_row h hn _ rfl _ rfl hg)
/-- whether a kind is another one, or stands under it -/
def und (k o : Int32) : Bool := decide (o = 0) || decide (o = k) || (decide (o = 2) && (decide (k = 3) || decide (k = 4))) || (decide (o = 3) && decide (k = 4)) || (decide (o = 1) && decide (k = 6))
set_option maxRecDepth 100000 in
set_option maxHeartbeats 4000000 in
theorem lk_um1 {X : Sc} {h : Hp} {s : Nat} (hs : s + 0 ≤ 6) {kd o : Int32} : Go X RX0 cX0_isUnder 4 0 4 [.int kd, .int o, .int (-1), .int (nI s)] [] h (some (.int (bI false))) h := by
  refine g_iload_n dX0_isUnder_4 rfl ?_
  refine g_bipush dX0_isUnder_5 bp_7 ?_
  refine g_icmp_ge 33 dX0_isUnder_7 (by decide) (fun c7 => ?_) (fun c7 => ?_)
  · exact absurd c7 (nI_ge (a := s) (b := 7) (by omega) (by decide))
  · refine g_iload_n dX0_isUnder_10 rfl ?_
    refine g_if_lt 33 dX0_isUnder_11 (by decide) (fun c11 => ?_) (fun c11 => ?_)
    · refine g_iconst dX0_isUnder_33 ic_0 ?_
      exact g_ireturn dX0_isUnder_34 rfl rfl
    · exact absurd (by decide) c11

set_option maxRecDepth 100000 in
set_option maxHeartbeats 4000000 in
theorem lk_u0 {X : Sc} {h : Hp} {s : Nat} (hs : s + 1 ≤ 6) {kd o : Int32} : Go X RX0 cX0_isUnder 4 0 4 [.int kd, .int o, .int (0), .int (nI s)] [] h (some (.int (bI (decide (o = 0) || false)))) h := by
  refine g_iload_n dX0_isUnder_4 rfl ?_
  refine g_bipush dX0_isUnder_5 bp_7 ?_
  refine g_icmp_ge 33 dX0_isUnder_7 (by decide) (fun c7 => ?_) (fun c7 => ?_)
  · exact absurd c7 (nI_ge (a := s) (b := 7) (by omega) (by decide))
  · refine g_iload_n dX0_isUnder_10 rfl ?_
    refine g_if_lt 33 dX0_isUnder_11 (by decide) (fun c11 => ?_) (fun c11 => ?_)
    · exact absurd c11 (by decide)
    · refine g_iload_n dX0_isUnder_14 rfl ?_
      refine g_iload_n dX0_isUnder_15 rfl ?_
      refine g_icmp_ne 21 dX0_isUnder_16 (by decide) (fun c16 => ?_) (fun c16 => ?_)
      · refine g_gets (i := 100) dX0_isUnder_21 ro0 fs_X0_54 ?_
        refine g_iload_n dX0_isUnder_24 rfl ?_
        refine g_ildr (l0 := kndAbove) 0 dX0_isUnder_25 ro0 rfl (by decide) (by decide) ?_
        refine g_istore_n dX0_isUnder_26 (by decide) rfl ?_
        refine g_iinc dX0_isUnder_27 rfl (ii_n _) (by decide) rfl ?_
        refine g_goto 4 dX0_isUnder_30 (by decide) ?_
        have q := lk_um1 (X := X) (h := h) (s := s + 1) (kd := kd) (o := o) (by omega)
        rw [show (decide (o = 0) || false) = false by rw [decide_eq_false (fun e => c16 e.symm), Bool.false_or]]
        exact q
      · refine g_iconst dX0_isUnder_19 ic_1 ?_
        exact g_ireturn dX0_isUnder_20 (by rw [decide_eq_true c16.symm]; rfl) rfl

set_option maxRecDepth 100000 in
set_option maxHeartbeats 4000000 in
theorem lk_u1 {X : Sc} {h : Hp} {s : Nat} (hs : s + 2 ≤ 6) {kd o : Int32} : Go X RX0 cX0_isUnder 4 0 4 [.int kd, .int o, .int (1), .int (nI s)] [] h (some (.int (bI (decide (o = 1) || (decide (o = 0) || false))))) h := by
  refine g_iload_n dX0_isUnder_4 rfl ?_
  refine g_bipush dX0_isUnder_5 bp_7 ?_
  refine g_icmp_ge 33 dX0_isUnder_7 (by decide) (fun c7 => ?_) (fun c7 => ?_)
  · exact absurd c7 (nI_ge (a := s) (b := 7) (by omega) (by decide))
  · refine g_iload_n dX0_isUnder_10 rfl ?_
    refine g_if_lt 33 dX0_isUnder_11 (by decide) (fun c11 => ?_) (fun c11 => ?_)
    · exact absurd c11 (by decide)
    · refine g_iload_n dX0_isUnder_14 rfl ?_
      refine g_iload_n dX0_isUnder_15 rfl ?_
      refine g_icmp_ne 21 dX0_isUnder_16 (by decide) (fun c16 => ?_) (fun c16 => ?_)
      · refine g_gets (i := 100) dX0_isUnder_21 ro0 fs_X0_54 ?_
        refine g_iload_n dX0_isUnder_24 rfl ?_
        refine g_ildr (l0 := kndAbove) 1 dX0_isUnder_25 ro0 rfl (by decide) (by decide) ?_
        refine g_istore_n dX0_isUnder_26 (by decide) rfl ?_
        refine g_iinc dX0_isUnder_27 rfl (ii_n _) (by decide) rfl ?_
        refine g_goto 4 dX0_isUnder_30 (by decide) ?_
        have q := lk_u0 (X := X) (h := h) (s := s + 1) (kd := kd) (o := o) (by omega)
        rw [show (decide (o = 1) || (decide (o = 0) || false)) = (decide (o = 0) || false) by rw [decide_eq_false (fun e => c16 e.symm), Bool.false_or]]
        exact q
      · refine g_iconst dX0_isUnder_19 ic_1 ?_
        exact g_ireturn dX0_isUnder_20 (by rw [decide_eq_true c16.symm]; rfl) rfl

set_option maxRecDepth 100000 in
set_option maxHeartbeats 4000000 in
theorem lk_u2 {X : Sc} {h : Hp} {s : Nat} (hs : s + 2 ≤ 6) {kd o : Int32} : Go X RX0 cX0_isUnder 4 0 4 [.int kd, .int o, .int (2), .int (nI s)] [] h (some (.int (bI (decide (o = 2) || (decide (o = 0) || false))))) h := by
  refine g_iload_n dX0_isUnder_4 rfl ?_
  refine g_bipush dX0_isUnder_5 bp_7 ?_
  refine g_icmp_ge 33 dX0_isUnder_7 (by decide) (fun c7 => ?_) (fun c7 => ?_)
  · exact absurd c7 (nI_ge (a := s) (b := 7) (by omega) (by decide))
  · refine g_iload_n dX0_isUnder_10 rfl ?_
    refine g_if_lt 33 dX0_isUnder_11 (by decide) (fun c11 => ?_) (fun c11 => ?_)
    · exact absurd c11 (by decide)
    · refine g_iload_n dX0_isUnder_14 rfl ?_
      refine g_iload_n dX0_isUnder_15 rfl ?_
      refine g_icmp_ne 21 dX0_isUnder_16 (by decide) (fun c16 => ?_) (fun c16 => ?_)
      · refine g_gets (i := 100) dX0_isUnder_21 ro0 fs_X0_54 ?_
        refine g_iload_n dX0_isUnder_24 rfl ?_
        refine g_ildr (l0 := kndAbove) 2 dX0_isUnder_25 ro0 rfl (by decide) (by decide) ?_
        refine g_istore_n dX0_isUnder_26 (by decide) rfl ?_
        refine g_iinc dX0_isUnder_27 rfl (ii_n _) (by decide) rfl ?_
        refine g_goto 4 dX0_isUnder_30 (by decide) ?_
        have q := lk_u0 (X := X) (h := h) (s := s + 1) (kd := kd) (o := o) (by omega)
        rw [show (decide (o = 2) || (decide (o = 0) || false)) = (decide (o = 0) || false) by rw [decide_eq_false (fun e => c16 e.symm), Bool.false_or]]
        exact q
      · refine g_iconst dX0_isUnder_19 ic_1 ?_
        exact g_ireturn dX0_isUnder_20 (by rw [decide_eq_true c16.symm]; rfl) rfl

set_option maxRecDepth 100000 in
set_option maxHeartbeats 4000000 in
theorem lk_u5 {X : Sc} {h : Hp} {s : Nat} (hs : s + 2 ≤ 6) {kd o : Int32} : Go X RX0 cX0_isUnder 4 0 4 [.int kd, .int o, .int (5), .int (nI s)] [] h (some (.int (bI (decide (o = 5) || (decide (o = 0) || false))))) h := by
  refine g_iload_n dX0_isUnder_4 rfl ?_
  refine g_bipush dX0_isUnder_5 bp_7 ?_
  refine g_icmp_ge 33 dX0_isUnder_7 (by decide) (fun c7 => ?_) (fun c7 => ?_)
  · exact absurd c7 (nI_ge (a := s) (b := 7) (by omega) (by decide))
  · refine g_iload_n dX0_isUnder_10 rfl ?_
    refine g_if_lt 33 dX0_isUnder_11 (by decide) (fun c11 => ?_) (fun c11 => ?_)
    · exact absurd c11 (by decide)
    · refine g_iload_n dX0_isUnder_14 rfl ?_
      refine g_iload_n dX0_isUnder_15 rfl ?_
      refine g_icmp_ne 21 dX0_isUnder_16 (by decide) (fun c16 => ?_) (fun c16 => ?_)
      · refine g_gets (i := 100) dX0_isUnder_21 ro0 fs_X0_54 ?_
        refine g_iload_n dX0_isUnder_24 rfl ?_
        refine g_ildr (l0 := kndAbove) 5 dX0_isUnder_25 ro0 rfl (by decide) (by decide) ?_
        refine g_istore_n dX0_isUnder_26 (by decide) rfl ?_
        refine g_iinc dX0_isUnder_27 rfl (ii_n _) (by decide) rfl ?_
        refine g_goto 4 dX0_isUnder_30 (by decide) ?_
        have q := lk_u0 (X := X) (h := h) (s := s + 1) (kd := kd) (o := o) (by omega)
        rw [show (decide (o = 5) || (decide (o = 0) || false)) = (decide (o = 0) || false) by rw [decide_eq_false (fun e => c16 e.symm), Bool.false_or]]
        exact q
      · refine g_iconst dX0_isUnder_19 ic_1 ?_
        exact g_ireturn dX0_isUnder_20 (by rw [decide_eq_true c16.symm]; rfl) rfl

set_option maxRecDepth 100000 in
set_option maxHeartbeats 4000000 in
theorem lk_u3 {X : Sc} {h : Hp} {s : Nat} (hs : s + 3 ≤ 6) {kd o : Int32} : Go X RX0 cX0_isUnder 4 0 4 [.int kd, .int o, .int (3), .int (nI s)] [] h (some (.int (bI (decide (o = 3) || (decide (o = 2) || (decide (o = 0) || false)))))) h := by
  refine g_iload_n dX0_isUnder_4 rfl ?_
  refine g_bipush dX0_isUnder_5 bp_7 ?_
  refine g_icmp_ge 33 dX0_isUnder_7 (by decide) (fun c7 => ?_) (fun c7 => ?_)
  · exact absurd c7 (nI_ge (a := s) (b := 7) (by omega) (by decide))
  · refine g_iload_n dX0_isUnder_10 rfl ?_
    refine g_if_lt 33 dX0_isUnder_11 (by decide) (fun c11 => ?_) (fun c11 => ?_)
    · exact absurd c11 (by decide)
    · refine g_iload_n dX0_isUnder_14 rfl ?_
      refine g_iload_n dX0_isUnder_15 rfl ?_
      refine g_icmp_ne 21 dX0_isUnder_16 (by decide) (fun c16 => ?_) (fun c16 => ?_)
      · refine g_gets (i := 100) dX0_isUnder_21 ro0 fs_X0_54 ?_
        refine g_iload_n dX0_isUnder_24 rfl ?_
        refine g_ildr (l0 := kndAbove) 3 dX0_isUnder_25 ro0 rfl (by decide) (by decide) ?_
        refine g_istore_n dX0_isUnder_26 (by decide) rfl ?_
        refine g_iinc dX0_isUnder_27 rfl (ii_n _) (by decide) rfl ?_
        refine g_goto 4 dX0_isUnder_30 (by decide) ?_
        have q := lk_u2 (X := X) (h := h) (s := s + 1) (kd := kd) (o := o) (by omega)
        rw [show (decide (o = 3) || (decide (o = 2) || (decide (o = 0) || false))) = (decide (o = 2) || (decide (o = 0) || false)) by rw [decide_eq_false (fun e => c16 e.symm), Bool.false_or]]
        exact q
      · refine g_iconst dX0_isUnder_19 ic_1 ?_
        exact g_ireturn dX0_isUnder_20 (by rw [decide_eq_true c16.symm]; rfl) rfl

set_option maxRecDepth 100000 in
set_option maxHeartbeats 4000000 in
theorem lk_u6 {X : Sc} {h : Hp} {s : Nat} (hs : s + 3 ≤ 6) {kd o : Int32} : Go X RX0 cX0_isUnder 4 0 4 [.int kd, .int o, .int (6), .int (nI s)] [] h (some (.int (bI (decide (o = 6) || (decide (o = 1) || (decide (o = 0) || false)))))) h := by
  refine g_iload_n dX0_isUnder_4 rfl ?_
  refine g_bipush dX0_isUnder_5 bp_7 ?_
  refine g_icmp_ge 33 dX0_isUnder_7 (by decide) (fun c7 => ?_) (fun c7 => ?_)
  · exact absurd c7 (nI_ge (a := s) (b := 7) (by omega) (by decide))
  · refine g_iload_n dX0_isUnder_10 rfl ?_
    refine g_if_lt 33 dX0_isUnder_11 (by decide) (fun c11 => ?_) (fun c11 => ?_)
    · exact absurd c11 (by decide)
    · refine g_iload_n dX0_isUnder_14 rfl ?_
      refine g_iload_n dX0_isUnder_15 rfl ?_
      refine g_icmp_ne 21 dX0_isUnder_16 (by decide) (fun c16 => ?_) (fun c16 => ?_)
      · refine g_gets (i := 100) dX0_isUnder_21 ro0 fs_X0_54 ?_
        refine g_iload_n dX0_isUnder_24 rfl ?_
        refine g_ildr (l0 := kndAbove) 6 dX0_isUnder_25 ro0 rfl (by decide) (by decide) ?_
        refine g_istore_n dX0_isUnder_26 (by decide) rfl ?_
        refine g_iinc dX0_isUnder_27 rfl (ii_n _) (by decide) rfl ?_
        refine g_goto 4 dX0_isUnder_30 (by decide) ?_
        have q := lk_u1 (X := X) (h := h) (s := s + 1) (kd := kd) (o := o) (by omega)
        rw [show (decide (o = 6) || (decide (o = 1) || (decide (o = 0) || false))) = (decide (o = 1) || (decide (o = 0) || false)) by rw [decide_eq_false (fun e => c16 e.symm), Bool.false_or]]
        exact q
      · refine g_iconst dX0_isUnder_19 ic_1 ?_
        exact g_ireturn dX0_isUnder_20 (by rw [decide_eq_true c16.symm]; rfl) rfl

set_option maxRecDepth 100000 in
set_option maxHeartbeats 4000000 in
theorem lk_u4 {X : Sc} {h : Hp} {s : Nat} (hs : s + 4 ≤ 6) {kd o : Int32} : Go X RX0 cX0_isUnder 4 0 4 [.int kd, .int o, .int (4), .int (nI s)] [] h (some (.int (bI (decide (o = 4) || (decide (o = 3) || (decide (o = 2) || (decide (o = 0) || false))))))) h := by
  refine g_iload_n dX0_isUnder_4 rfl ?_
  refine g_bipush dX0_isUnder_5 bp_7 ?_
  refine g_icmp_ge 33 dX0_isUnder_7 (by decide) (fun c7 => ?_) (fun c7 => ?_)
  · exact absurd c7 (nI_ge (a := s) (b := 7) (by omega) (by decide))
  · refine g_iload_n dX0_isUnder_10 rfl ?_
    refine g_if_lt 33 dX0_isUnder_11 (by decide) (fun c11 => ?_) (fun c11 => ?_)
    · exact absurd c11 (by decide)
    · refine g_iload_n dX0_isUnder_14 rfl ?_
      refine g_iload_n dX0_isUnder_15 rfl ?_
      refine g_icmp_ne 21 dX0_isUnder_16 (by decide) (fun c16 => ?_) (fun c16 => ?_)
      · refine g_gets (i := 100) dX0_isUnder_21 ro0 fs_X0_54 ?_
        refine g_iload_n dX0_isUnder_24 rfl ?_
        refine g_ildr (l0 := kndAbove) 4 dX0_isUnder_25 ro0 rfl (by decide) (by decide) ?_
        refine g_istore_n dX0_isUnder_26 (by decide) rfl ?_
        refine g_iinc dX0_isUnder_27 rfl (ii_n _) (by decide) rfl ?_
        refine g_goto 4 dX0_isUnder_30 (by decide) ?_
        have q := lk_u3 (X := X) (h := h) (s := s + 1) (kd := kd) (o := o) (by omega)
        rw [show (decide (o = 4) || (decide (o = 3) || (decide (o = 2) || (decide (o = 0) || false)))) = (decide (o = 3) || (decide (o = 2) || (decide (o = 0) || false))) by rw [decide_eq_false (fun e => c16 e.symm), Bool.false_or]]
        exact q
      · refine g_iconst dX0_isUnder_19 ic_1 ?_
        exact g_ireturn dX0_isUnder_20 (by rw [decide_eq_true c16.symm]; rfl) rfl

theorem und_all : ∀ k, k ≤ 6 → ∀ o : Int32, und (nI k) o = (match k with
  | 0 => decide (o = 0) || false
  | 1 => decide (o = 1) || (decide (o = 0) || false)
  | 2 => decide (o = 2) || (decide (o = 0) || false)
  | 3 => decide (o = 3) || (decide (o = 2) || (decide (o = 0) || false))
  | 4 => decide (o = 4) || (decide (o = 3) || (decide (o = 2) || (decide (o = 0) || false)))
  | 5 => decide (o = 5) || (decide (o = 0) || false)
  | _ => decide (o = 6) || (decide (o = 1) || (decide (o = 0) || false))) := by
  intro k hk o
  unfold und
  match k, hk with
  | 0, _ | 1, _ | 2, _ | 3, _ | 4, _ | 5, _ | 6, _ =>
    by_cases e0 : o = 0
    · subst e0; decide
    · by_cases e1 : o = 1
      · subst e1; decide
      · by_cases e2 : o = 2
        · subst e2; decide
        · by_cases e3 : o = 3
          · subst e3; decide
          · by_cases e4 : o = 4
            · subst e4; decide
            · by_cases e5 : o = 5
              · subst e5; decide
              · by_cases e6 : o = 6
                · subst e6; decide
                · simp only [e0, e1, e2, e3, e4, e5, e6, decide_false, show nI 0 = 0 from rfl, show nI 1 = 1 from rfl, show nI 2 = 2 from rfl, show nI 3 = 3 from rfl, show nI 4 = 4 from rfl, show nI 5 = 5 from rfl, show nI 6 = 6 from rfl]; decide
  | n + 7, h => exact absurd h (by omega)
set_option maxRecDepth 100000 in
set_option maxHeartbeats 4000000 in
theorem c_X0_isUnder {X : Sc} {h : Hp} {k : Nat} (hk : k ≤ 6) {o : Int32} : Ct X yX0_isUnder cX0_isUnder 4 (some .boolean) 0 [.int (nI k), .int o] h (some (.int (bI (und (nI k) o)))) h := by
  refine ⟨rok_b _, ?_⟩
  refine g_iload_n dX0_isUnder_0 rfl ?_
  refine g_istore_n dX0_isUnder_1 (by decide) rfl ?_
  refine g_iconst dX0_isUnder_2 ic_0 ?_
  refine g_istore_n dX0_isUnder_3 (by decide) rfl ?_
  rw [und_all k hk o]
  match k, hk with
  | 0, _ => exact lk_u0 (by decide)
  | 1, _ => exact lk_u1 (by decide)
  | 2, _ => exact lk_u2 (by decide)
  | 3, _ => exact lk_u3 (by decide)
  | 4, _ => exact lk_u4 (by decide)
  | 5, _ => exact lk_u5 (by decide)
  | 6, _ => exact lk_u6 (by decide)
  | n + 7, h => exact absurd h (by omega)

