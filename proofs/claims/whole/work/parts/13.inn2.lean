/-! THE INN: days, sums, copies -/
theorem hld_in (z : Int32) {t : Nat} (ht : t < 2 ^ 31) : ∃ x, x ≤ t ∧ hld z 0 (nI t) = nI x := by
  unfold hld
  by_cases h1 : z < 0
  · rw [if_pos h1]; exact ⟨0, Nat.zero_le _, rfl⟩
  · rw [if_neg h1]
    obtain ⟨j, hj, rfl⟩ := nI_of h1
    by_cases h2 : nI t < nI j
    · rw [if_pos h2]; exact ⟨t, Nat.le_refl _, rfl⟩
    · rw [if_neg h2]
      exact ⟨j, Nat.le_of_not_lt (fun q => h2 (nI_lt q hj)), rfl⟩
theorem nI_or (a b : Nat) : nI a ||| nI b = nI (a ||| b) := by
  apply Int32.toBitVec_inj.1
  show BitVec.ofNat 32 a ||| BitVec.ofNat 32 b = BitVec.ofNat 32 (a ||| b)
  apply BitVec.eq_of_getLsbD_eq
  intro i hi
  simp [hi]
theorem sh_nI : ∀ x, x ≤ 11 → (1 : Int32) <<< (nI x &&& 31) = nI (2 ^ x) := by decide +kernel
theorem been_in {m : Rw} {x y : Nat} (hx : x ≤ 11) (hy : y ≤ 4095) : ∃ z, z ≤ 4095 ∧ nI y ||| 1 <<< (nI x &&& 31) = nI z := by
  refine ⟨y ||| 2 ^ x, ?_, by rw [sh_nI x hx, nI_or]⟩
  have h1 : y ||| 2 ^ x < 2 ^ 12 := Nat.or_lt_two_pow (by omega) (Nat.pow_lt_pow_right (by decide) (by omega))
  omega
theorem nD_upd {m : Rw} {k : Nat} {v : Int32} (hk : k ≠ 2) : nD (upd m k v) = nD m := by unfold nD; rw [upd_n _ _ (Ne.symm hk)]
theorem nG_upd {m : Rw} {k : Nat} {v : Int32} (hk : k ≠ 3) : nG (upd m k v) = nG m := by unfold nG; rw [upd_n _ _ (Ne.symm hk)]
theorem In.upd {m : Rw} (h : In m) {k x : Nat} (hk : k < 88) (h1 : k ≠ 1) (h2 : k ≠ 2) (hx : okc k x) : In (upd m k (nI x)) := by
  refine ⟨fun j hj hj1 => ?_, fun s hs => ?_⟩
  · by_cases e : j = k
    · subst e; exact ⟨x, hx, upd_s _ _ _⟩
    · rw [upd_n _ _ e]; exact h.1 j hj hj1
  · rw [upd_n _ _ (by omega), nD_upd h2]; exact h.2 s hs
theorem In.pG {m : Rw} (h : In m) {e w x : Nat} (he : e < 6) (hw : w < 5) (hx : x ≤ gTop w) : In (pG m e w (nI x)) := by
  refine h.upd (by omega) (by omega) (by omega) ?_
  unfold okc
  rw [if_neg (by omega), if_neg (by omega), if_neg (by omega), if_neg (by omega), if_neg (by omega), show (58 + (e * 5 + w) - 58) % 5 = w by omega]
  exact hx
theorem In.pD {m : Rw} (h : In m) {d w x : Nat} (hd : d < 8) (hw : w < 6) (hx : x ≤ dTop w) : In (pD m d w (nI x)) := by
  refine h.upd (by omega) (by omega) (by omega) ?_
  unfold okc
  rw [if_neg (by omega), if_neg (by omega), if_neg (by omega), if_neg (by omega), if_pos (by omega), show (10 + (d * 6 + w) - 10) % 6 = w by omega]
  exact hx
theorem In.pG' {m : Rw} (h : In m) {e w : Nat} {v : Int32} (he : e < 6) (hw : w < 5) (hv : ∃ x, x ≤ gTop w ∧ v = nI x) : In (Jvm.Pilot.CForkInnLaw_law_r3082_bfc7c5.pG m e w v) := by
  obtain ⟨x, hx, rfl⟩ := hv
  exact h.pG he hw hx
theorem In.pD' {m : Rw} (h : In m) {d w : Nat} {v : Int32} (hd : d < 8) (hw : w < 6) (hv : ∃ x, x ≤ dTop w ∧ v = nI x) : In (Jvm.Pilot.CForkInnLaw_law_r3082_bfc7c5.pD m d w v) := by
  obtain ⟨x, hx, rfl⟩ := hv
  exact h.pD hd hw hx
theorem In.twn {m : Rw} (h : In m) {d : Nat} (hd : d < 8) (l : Bool) : ∃ x, x ≤ 11 ∧ twn m d l = nI x := by
  cases l
  · exact h.d hd (w := 2) (by decide)
  · exact h.d hd (w := 1) (by decide)
theorem In.eat {m : Rw} (h : In m) {e d : Nat} (he : e < 6) (hd : d < 8) : In (eatR m e d) := by
  unfold eatR
  have h3 : ∃ z, z ≤ 4095 ∧ gF m e 3 ||| 1 <<< (Jvm.Pilot.CForkInnLaw_law_r3082_bfc7c5.twn m d (lft m e d) &&& 31) = nI z := by
    obtain ⟨x, hx, ex⟩ := h.twn hd (lft m e d)
    obtain ⟨y, hy, ey⟩ := h.g he (w := 3) (by decide)
    rw [ex, ey]
    exact been_in (m := m) hx hy
  exact ((((((h.pG' (w := 2) he (by decide) (hld_in _ (t := 99999) (by decide))).pG' (w := 1) he (by decide) (h.twn hd _)).pG' (w := 3) he (by decide) h3).pG' (w := 4) he (by decide) (hld_in _ (t := 9999) (by decide))).pG' (w := 0) he (by decide) (hld_in _ (t := 99) (by decide))).pD' (w := 4) hd (by decide) (hld_in _ (t := 9999) (by decide)))
theorem eatR_lo (m : Rw) (e d : Nat) {k : Nat} (hk : k < 10) : eatR m e d k = m k := by
  unfold eatR pD pG
  rw [upd_n _ _ (by omega), upd_n _ _ (by omega), upd_n _ _ (by omega), upd_n _ _ (by omega), upd_n _ _ (by omega), upd_n _ _ (by omega)]
theorem mealOf_eq {m : Rw} {t q : Nat} (ht : t < 2 ^ 31) (hq : q < 2 ^ 31) (e0 : m 0 = nI t) (e1 : m (4 + t % 6) = nI q) : mealOf m = q := by
  unfold mealOf
  rw [e0, nI_clamp ht, e1, nI_clamp hq]
theorem In.day0 {m : Rw} (h : In m) : ¬ m 0 + 1 < 0 := by
  obtain ⟨t, ht, e⟩ := h.day
  rw [e, nI_1]; exact nI_pos (by omega)
theorem In.dayR {m : Rw} (h : In m) : In (dayR m) := by
  unfold Jvm.Pilot.CForkInnLaw_law_r3082_bfc7c5.dayR
  obtain ⟨x, hx, ex⟩ := hld_in (m 0 + 1) (t := 99999) (by decide)
  have ex : hld (m 0 + 1) 0 99999 = nI x := ex
  rw [ex]
  have hok : okc 0 x := by simpa [okc] using hx
  split
  · rename_i c
    have a1 := h.nG.1
    have a2 := h.nD.1
    exact (h.eat (by omega) (by omega)).upd (by decide) (by decide) (by decide) hok
  · exact h.upd (by decide) (by decide) (by decide) hok
theorem In.days {m : Rw} (h : In m) : ∀ n, In (daysR m n)
  | 0 => h
  | n + 1 => (h.days n).dayR
theorem rem6 {t : Nat} (ht : t < 2 ^ 31) : nI t - nI t / 6 * 6 = nI (t % 6) := pk_rem (d := 6) ht (by decide) (by decide)
theorem div10 {t : Nat} (ht : t < 2 ^ 31) : nI t / 10 = nI (t / 10) := pk_div (d := 10) ht (by decide) (by decide)
theorem rem10 {t : Nat} (ht : t < 2 ^ 31) : nI t - nI t / 10 * 10 = nI (t % 10) := pk_rem (d := 10) ht (by decide) (by decide)
theorem day_no {m : Rw} (h : In m) (c : ¬ (mealOf m / 10 < nG m ∧ mealOf m % 10 < nD m ∧ dF m (mealOf m % 10) 5 = 0)) : upd m 0 (if m 0 + 1 < 99999 then m 0 + 1 else 99999) = dayR m := by
  unfold dayR
  rw [if_neg c, mn_hld h.day0]
theorem day_yes {m : Rw} (h : In m) (c : mealOf m / 10 < nG m ∧ mealOf m % 10 < nD m ∧ dF m (mealOf m % 10) 5 = 0) : upd (eatR m (mealOf m / 10) (mealOf m % 10)) 0 (if m 0 + 1 < 99999 then m 0 + 1 else 99999) = dayR m := by
  unfold dayR
  rw [if_pos c, mn_hld h.day0]
theorem In.off {m : Rw} (h : In m) {d : Nat} (hd : d < 8) : dF m d 5 = 0 ∨ dF m d 5 = 1 := by
  obtain ⟨x5, hx5, e5⟩ := h.d hd (w := 5) (by decide)
  have hx5 : x5 ≤ 1 := hx5
  rcases (show x5 = 0 ∨ x5 = 1 by omega) with r | r
  · exact Or.inl (by rw [e5, r]; rfl)
  · exact Or.inr (by rw [e5, r]; rfl)
set_option maxRecDepth 100000 in
set_option maxHeartbeats 4000000 in
theorem c_X0_passDay {X : Sc} {h : Hp} {b g : Nat} (hb : InnAt b g) (hI : In (h g)) : Ct X yX0_passDay cX0_passDay 4 none 3 [.ref b] h none (setg h g (dayR (h g))) := by
  obtain ⟨t, ht, e0⟩ := hI.day
  obtain ⟨q, h6, h8, eq⟩ := hI.meal (i := t % 6) (by omega)
  have eM : mealOf (h g) = q := mealOf_eq (by omega) (by omega) e0 eq
  have hG := isG_nI (d := q / 10) hI.nG.2 (by have := hI.nG.1; omega) (by omega)
  have hD := isD_nI (d := q % 10) hI.nD.2 (by have := hI.nD.1; omega) (by omega)
  have o5 := hI.off h8
  refine ⟨trivial, ?_⟩
  refine g_aload_n dX0_passDay_0 rfl ?_
  refine g_getR dX0_passDay_1 fl_X0_11 hb.1 rfl ?_
  refine g_aload_n dX0_passDay_4 rfl ?_
  refine g_getI dX0_passDay_5 fl_X0_40 hb.1 rfl ?_
  refine g_st (st2 := [.int (nI t), .ref (b + 1)]) (by rw [e0]) ?_
  refine g_bipush dX0_passDay_8 bp_6 ?_
  refine g_irem dX0_passDay_10 (by decide) ?_
  refine g_iald (t % 6) dX0_passDay_11 hb.2.1 (rem6 (by omega)) (by omega) ?_
  refine g_st (st2 := [.int (nI q)]) (by rw [eq]) ?_
  refine g_istore_n dX0_passDay_12 (by decide) rfl ?_
  refine g_iload_n dX0_passDay_13 rfl ?_
  refine g_callS1i (c_X0_guestOfMeal) mi_X0_guestOfMeal ms_X0_guestOfMeal ml_X0_95 dX0_passDay_14 (by decide) (Nat.le_of_ble_eq_true rfl) (Nat.le_of_ble_eq_true rfl) ?_
  refine g_st (st2 := [.int (nI (q / 10))]) (by rw [div10 (by omega)]) ?_
  refine g_istore_n dX0_passDay_17 (by decide) rfl ?_
  refine g_iload_n dX0_passDay_18 rfl ?_
  refine g_callS1i (c_X0_dishOfMeal) mi_X0_dishOfMeal ms_X0_dishOfMeal ml_X0_99 dX0_passDay_19 (by decide) (Nat.le_of_ble_eq_true rfl) (Nat.le_of_ble_eq_true rfl) ?_
  refine g_st (st2 := [.int (nI (q % 10))]) (by rw [rem10 (by omega)]) ?_
  refine g_istore_n dX0_passDay_22 (by decide) rfl ?_
  refine g_aload_n dX0_passDay_23 rfl ?_
  refine g_iload_n dX0_passDay_24 rfl ?_
  refine g_callV1i (c_X0_isGuest hb) mi_X0_isGuest mv_X0_isGuest ml_X0_102 dX0_passDay_25 hb.1 rfl (by decide) (Nat.le_of_ble_eq_true rfl) (Nat.le_of_ble_eq_true rfl) ?_
  refine g_if_eq 53 dX0_passDay_28 (by decide) (fun c28 => ?_) (fun c28 => ?_)
  · refine g_aload_n dX0_passDay_53 rfl ?_
    refine g_ldc dX0_passDay_54 lc_X0_83 ?_
    refine g_aload_n dX0_passDay_56 rfl ?_
    refine g_getI dX0_passDay_57 fl_X0_40 hb.1 rfl ?_
    refine g_iconst dX0_passDay_60 ic_1 ?_
    refine g_iadd dX0_passDay_61 ?_
    refine g_min dX0_passDay_62 ml_X0_69 mm_minS mm_I mm_minC (by decide) (Nat.le_of_ble_eq_true rfl) ?_
    refine g_putI dX0_passDay_65 fl_X0_40 fp_0_6 hb.1 rfl ?_
    exact g_return dX0_passDay_68 rfl (by first | (rw [up_setg, day_no hI (by rw [eM]; rintro ⟨x1, x2, x3⟩; simp_all [bI_0])]) | (rw [up_setg, setg_s, setg_2, eatR_lo _ _ _ (by decide), ← eM, day_yes hI (by rw [eM]; refine ⟨?_, ?_, ?_⟩ <;> simp_all [bI_0])]))
  · refine g_aload_n dX0_passDay_31 rfl ?_
    refine g_iload_n dX0_passDay_32 rfl ?_
    refine g_callV1i (c_X0_isDish hb) mi_X0_isDish mv_X0_isDish ml_X0_106 dX0_passDay_33 hb.1 rfl (by decide) (Nat.le_of_ble_eq_true rfl) (Nat.le_of_ble_eq_true rfl) ?_
    refine g_if_eq 53 dX0_passDay_36 (by decide) (fun c36 => ?_) (fun c36 => ?_)
    · refine g_aload_n dX0_passDay_53 rfl ?_
      refine g_ldc dX0_passDay_54 lc_X0_83 ?_
      refine g_aload_n dX0_passDay_56 rfl ?_
      refine g_getI dX0_passDay_57 fl_X0_40 hb.1 rfl ?_
      refine g_iconst dX0_passDay_60 ic_1 ?_
      refine g_iadd dX0_passDay_61 ?_
      refine g_min dX0_passDay_62 ml_X0_69 mm_minS mm_I mm_minC (by decide) (Nat.le_of_ble_eq_true rfl) ?_
      refine g_putI dX0_passDay_65 fl_X0_40 fp_0_6 hb.1 rfl ?_
      exact g_return dX0_passDay_68 rfl (by first | (rw [up_setg, day_no hI (by rw [eM]; rintro ⟨x1, x2, x3⟩; simp_all [bI_0])]) | (rw [up_setg, setg_s, setg_2, eatR_lo _ _ _ (by decide), ← eM, day_yes hI (by rw [eM]; refine ⟨?_, ?_, ?_⟩ <;> simp_all [bI_0])]))
    · refine g_aload_n dX0_passDay_39 rfl ?_
      refine g_iload_n dX0_passDay_40 rfl ?_
      refine g_callV1i (c_X0_isOff hb h8) mi_X0_isOff mv_X0_isOff ml_X0_109 dX0_passDay_41 hb.1 rfl (by decide) (Nat.le_of_ble_eq_true rfl) (Nat.le_of_ble_eq_true rfl) ?_
      refine g_if_ne 53 dX0_passDay_44 (by decide) (fun c44 => ?_) (fun c44 => ?_)
      · refine g_aload_n dX0_passDay_53 rfl ?_
        refine g_ldc dX0_passDay_54 lc_X0_83 ?_
        refine g_aload_n dX0_passDay_56 rfl ?_
        refine g_getI dX0_passDay_57 fl_X0_40 hb.1 rfl ?_
        refine g_iconst dX0_passDay_60 ic_1 ?_
        refine g_iadd dX0_passDay_61 ?_
        refine g_min dX0_passDay_62 ml_X0_69 mm_minS mm_I mm_minC (by decide) (Nat.le_of_ble_eq_true rfl) ?_
        refine g_putI dX0_passDay_65 fl_X0_40 fp_0_6 hb.1 rfl ?_
        exact g_return dX0_passDay_68 rfl (by first | (rw [up_setg, day_no hI (by rw [eM]; rintro ⟨x1, x2, x3⟩; simp_all [bI_0])]) | (rw [up_setg, setg_s, setg_2, eatR_lo _ _ _ (by decide), ← eM, day_yes hI (by rw [eM]; refine ⟨?_, ?_, ?_⟩ <;> simp_all [bI_0])]))
      · refine g_aload_n dX0_passDay_47 rfl ?_
        refine g_iload_n dX0_passDay_48 rfl ?_
        refine g_iload_n dX0_passDay_49 rfl ?_
        refine g_callV2v (c_X0_haveMeal hb hI h6 h8) mi_X0_haveMeal mv_X0_haveMeal ml_X0_112 dX0_passDay_50 hb.1 rfl (by decide) (Nat.le_of_ble_eq_true rfl) (Nat.le_of_ble_eq_true rfl) ?_
        refine g_aload_n dX0_passDay_53 rfl ?_
        refine g_ldc dX0_passDay_54 lc_X0_83 ?_
        refine g_aload_n dX0_passDay_56 rfl ?_
        refine g_getI dX0_passDay_57 fl_X0_40 hb.1 rfl ?_
        refine g_iconst dX0_passDay_60 ic_1 ?_
        refine g_iadd dX0_passDay_61 ?_
        refine g_min dX0_passDay_62 ml_X0_69 mm_minS mm_I mm_minC (by decide) (Nat.le_of_ble_eq_true rfl) ?_
        refine g_putI dX0_passDay_65 fl_X0_40 fp_0_6 hb.1 rfl ?_
        exact g_return dX0_passDay_68 rfl (by first | (rw [up_setg, day_no hI (by rw [eM]; rintro ⟨x1, x2, x3⟩; simp_all [bI_0])]) | (rw [up_setg, setg_s, setg_2, eatR_lo _ _ _ (by decide), ← eM, day_yes hI (by rw [eM]; refine ⟨?_, ?_, ?_⟩ <;> simp_all [bI_0])]))

set_option maxRecDepth 100000 in
set_option maxHeartbeats 4000000 in
theorem l_X0_passDays {X : Sc} {h : Hp} {b g : Nat} (hb : InnAt b g) (hI : In (h g)) {n : Nat} (hn : n < 2 ^ 31) : ∀ k, k ≤ n → Go X RX0 cX0_passDays 3 4 2 [.ref b, .int (nI n), .int (nI k)] [] (setg h g (daysR (h g) k)) none (setg h g (daysR (h g) n)) := by
  refine loop_up (n) ?_ ?_
  · refine g_iload_n dX0_passDays_2 rfl ?_
    refine g_iload_n dX0_passDays_3 rfl ?_
    refine g_icmp_ge 17 dX0_passDays_4 (by decide) (fun c4 => ?_) (fun c4 => ?_)
    · exact g_return dX0_passDays_17 rfl rfl
    · exact (lp_yes ((rfl : nI n = nI n)) (by omega) c4).elim
  · intro k hk ih
    refine g_iload_n dX0_passDays_2 rfl ?_
    refine g_iload_n dX0_passDays_3 rfl ?_
    refine g_icmp_ge 17 dX0_passDays_4 (by decide) (fun c4 => ?_) (fun c4 => ?_)
    · exact (lp_no ((rfl : nI n = nI n)) (by omega) hk c4).elim
    · refine g_aload_n dX0_passDays_7 rfl ?_
      refine g_callV0v (c_X0_passDay hb (by rw [setg_s]; exact hI.days k)) mi_X0_passDay mv_X0_passDay ml_X0_115 dX0_passDays_8 hb.1 rfl (by decide) (Nat.le_of_ble_eq_true rfl) (Nat.le_of_ble_eq_true rfl) ?_
      refine g_iinc dX0_passDays_11 rfl (ii_n _) (by decide) rfl ?_
      refine g_goto 2 dX0_passDays_14 (by decide) ?_
      exact g_h (by rw [setg_s, setg_2]; rfl) ih

set_option maxRecDepth 100000 in
set_option maxHeartbeats 4000000 in
theorem c_X0_passDays {X : Sc} {h : Hp} {b g : Nat} (hb : InnAt b g) (hI : In (h g)) {n : Nat} (hn : n < 2 ^ 31) : Ct X yX0_passDays cX0_passDays 3 none 4 [.ref b, .int (nI n)] h none (setg h g (daysR (h g) n)) := by
  refine ⟨trivial, ?_⟩
  refine g_iconst dX0_passDays_0 ic_0 ?_
  refine g_istore_n dX0_passDays_1 (by decide) rfl ?_
  exact g_h (setg_id h g).symm (l_X0_passDays hb hI hn 0 (Nat.zero_le _))

def drwZ (z : Int32) : Int32 := z * 1103515245 + 12345
def drwV (z : Int32) : Int32 := ((drwZ z).toUInt32 >>> ((8 : Int32).toUInt32 &&& Int32.toUInt32 31)).toInt32
set_option maxRecDepth 100000 in
set_option maxHeartbeats 4000000 in
theorem c_X0_drawNumber {X : Sc} {h : Hp} {b g : Nat} (hb : InnAt b g) : Ct X yX0_drawNumber cX0_drawNumber 1 (some .int) 0 [.ref b] h (some (.int (drwV (h g 1)))) (setg h g (upd (h g) 1 (drwZ (h g 1)))) := by
  refine ⟨rfl, ?_⟩
  refine g_aload_n dX0_drawNumber_0 rfl ?_
  refine g_aload_n dX0_drawNumber_1 rfl ?_
  refine g_getI dX0_drawNumber_2 fl_X0_24 hb.1 rfl ?_
  refine g_ldc dX0_drawNumber_5 lc_X0_118 ?_
  refine g_imul dX0_drawNumber_7 ?_
  refine g_sipush dX0_drawNumber_8 sp_12345 ?_
  refine g_iadd dX0_drawNumber_11 ?_
  refine g_putI dX0_drawNumber_12 fl_X0_24 fp_0_7 hb.1 rfl ?_
  refine g_aload_n dX0_drawNumber_15 rfl ?_
  refine g_getI dX0_drawNumber_16 fl_X0_24 hb.1 rfl ?_
  refine g_bipush dX0_drawNumber_19 bp_8 ?_
  refine g_iushr dX0_drawNumber_21 ?_
  exact g_ireturn dX0_drawNumber_22 (by simp [up_s, drwV, drwZ]) (up_setg _ _ _ _)

def bilS (m : Rw) : Nat → Int32
  | 0 => 0
  | n + 1 => bilS m n + gF m n 2
def srvS (m : Rw) : Nat → Int32
  | 0 => 0
  | n + 1 => srvS m n + dF m n 4
def aimS (m : Rw) : Nat → Int32
  | 0 => 0
  | n + 1 => aimS m n ||| 1 <<< (gF m n 1 &&& 31)
def ben2 (m : Rw) : Nat → Int32
  | 0 => 0
  | n + 1 => ben2 m n ||| gF m n 3
def crdS (m : Rw) : Nat → Int32
  | 0 => 0
  | n + 1 => if dF m n 5 = 1 then crdS m n else crdS m n ||| 1 <<< (nI n &&& 31)
def spoN (m : Rw) : Nat → Nat
  | 0 => 0
  | n + 1 => if m (88 + n) = -1 then spoN m n else spoN m n + 1
/-- who owes most of the first n, and what -/
def debG (m : Rw) : Nat → Int32 × Int32
  | 0 => (-1, -1)
  | n + 1 => if gF m n 2 ≤ (debG m n).2 then debG m n else (nI n, gF m n 2)
/-- of the first n behind a, how many are for another town than a -/
def parI (m : Rw) (a : Nat) : Nat → Nat
  | 0 => 0
  | n + 1 => if a < n ∧ ¬ gF m a 1 = gF m n 1 then parI m a n + 1 else parI m a n
def parO (m : Rw) (G : Nat) : Nat → Nat
  | 0 => 0
  | n + 1 => parO m G n + parI m n G
set_option maxRecDepth 100000 in
set_option maxHeartbeats 4000000 in
theorem l_X0_billSum {X : Sc} {h : Hp} {b g : Nat} (hb : InnAt b g) (hI : In (h g)) : ∀ k, k ≤ nG (h g) → Go X RX0 cX0_billSum 3 2 4 [.ref b, .int (bilS (h g) k), .int (nI k)] [] h (some (.int (bilS (h g) (nG (h g))))) h := by
  have hN := hI.nG.1
  refine loop_up (nG (h g)) ?_ ?_
  · refine g_iload_n dX0_billSum_4 rfl ?_
    refine g_aload_n dX0_billSum_5 rfl ?_
    refine g_getI dX0_billSum_6 fl_X0_37 hb.1 rfl ?_
    refine g_icmp_ge 27 dX0_billSum_9 (by decide) (fun c9 => ?_) (fun c9 => ?_)
    · refine g_iload_n dX0_billSum_27 rfl ?_
      exact g_ireturn dX0_billSum_28 rfl rfl
    · exact (lp_yes (hI.nG.2) (by omega) c9).elim
  · intro k hk ih
    refine g_iload_n dX0_billSum_4 rfl ?_
    refine g_aload_n dX0_billSum_5 rfl ?_
    refine g_getI dX0_billSum_6 fl_X0_37 hb.1 rfl ?_
    refine g_icmp_ge 27 dX0_billSum_9 (by decide) (fun c9 => ?_) (fun c9 => ?_)
    · exact (lp_no (hI.nG.2) (by omega) hk c9).elim
    · refine g_iload_n dX0_billSum_12 rfl ?_
      refine g_aload_n dX0_billSum_13 rfl ?_
      refine g_iload_n dX0_billSum_14 rfl ?_
      refine g_iconst dX0_billSum_15 ic_2 ?_
      refine g_callV2i (c_X0_guestFact (w := 2) hb (by omega) (by decide)) mi_X0_guestFact mv_X0_guestFact ml_X0_57 dX0_billSum_16 hb.1 rfl (by decide) (Nat.le_of_ble_eq_true rfl) (Nat.le_of_ble_eq_true rfl) ?_
      refine g_iadd dX0_billSum_19 ?_
      refine g_istore_n dX0_billSum_20 (by decide) rfl ?_
      refine g_iinc dX0_billSum_21 rfl (ii_n _) (by decide) rfl ?_
      refine g_goto 4 dX0_billSum_24 (by decide) ?_
      exact ih

set_option maxRecDepth 100000 in
set_option maxHeartbeats 4000000 in
theorem c_X0_billSum {X : Sc} {h : Hp} {b g : Nat} (hb : InnAt b g) (hI : In (h g)) : Ct X yX0_billSum cX0_billSum 3 (some .int) 2 [.ref b] h (some (.int (bilS (h g) (nG (h g))))) h := by
  refine ⟨rfl, ?_⟩
  refine g_iconst dX0_billSum_0 ic_0 ?_
  refine g_istore_n dX0_billSum_1 (by decide) rfl ?_
  refine g_iconst dX0_billSum_2 ic_0 ?_
  refine g_istore_n dX0_billSum_3 (by decide) rfl ?_
  exact l_X0_billSum hb hI 0 (Nat.zero_le _)

set_option maxRecDepth 100000 in
set_option maxHeartbeats 4000000 in
theorem l_X0_servedSum {X : Sc} {h : Hp} {b g : Nat} (hb : InnAt b g) (hI : In (h g)) : ∀ k, k ≤ nD (h g) → Go X RX0 cX0_servedSum 3 2 4 [.ref b, .int (srvS (h g) k), .int (nI k)] [] h (some (.int (srvS (h g) (nD (h g))))) h := by
  have hN := hI.nD.1
  refine loop_up (nD (h g)) ?_ ?_
  · refine g_iload_n dX0_servedSum_4 rfl ?_
    refine g_aload_n dX0_servedSum_5 rfl ?_
    refine g_getI dX0_servedSum_6 fl_X0_34 hb.1 rfl ?_
    refine g_icmp_ge 27 dX0_servedSum_9 (by decide) (fun c9 => ?_) (fun c9 => ?_)
    · refine g_iload_n dX0_servedSum_27 rfl ?_
      exact g_ireturn dX0_servedSum_28 rfl rfl
    · exact (lp_yes (hI.nD.2) (by omega) c9).elim
  · intro k hk ih
    refine g_iload_n dX0_servedSum_4 rfl ?_
    refine g_aload_n dX0_servedSum_5 rfl ?_
    refine g_getI dX0_servedSum_6 fl_X0_34 hb.1 rfl ?_
    refine g_icmp_ge 27 dX0_servedSum_9 (by decide) (fun c9 => ?_) (fun c9 => ?_)
    · exact (lp_no (hI.nD.2) (by omega) hk c9).elim
    · refine g_iload_n dX0_servedSum_12 rfl ?_
      refine g_aload_n dX0_servedSum_13 rfl ?_
      refine g_iload_n dX0_servedSum_14 rfl ?_
      refine g_iconst dX0_servedSum_15 ic_4 ?_
      refine g_callV2i (c_X0_dishFact (w := 4) hb (by omega) (by decide)) mi_X0_dishFact mv_X0_dishFact ml_X0_43 dX0_servedSum_16 hb.1 rfl (by decide) (Nat.le_of_ble_eq_true rfl) (Nat.le_of_ble_eq_true rfl) ?_
      refine g_iadd dX0_servedSum_19 ?_
      refine g_istore_n dX0_servedSum_20 (by decide) rfl ?_
      refine g_iinc dX0_servedSum_21 rfl (ii_n _) (by decide) rfl ?_
      refine g_goto 4 dX0_servedSum_24 (by decide) ?_
      exact ih

set_option maxRecDepth 100000 in
set_option maxHeartbeats 4000000 in
theorem c_X0_servedSum {X : Sc} {h : Hp} {b g : Nat} (hb : InnAt b g) (hI : In (h g)) : Ct X yX0_servedSum cX0_servedSum 3 (some .int) 2 [.ref b] h (some (.int (srvS (h g) (nD (h g))))) h := by
  refine ⟨rfl, ?_⟩
  refine g_iconst dX0_servedSum_0 ic_0 ?_
  refine g_istore_n dX0_servedSum_1 (by decide) rfl ?_
  refine g_iconst dX0_servedSum_2 ic_0 ?_
  refine g_istore_n dX0_servedSum_3 (by decide) rfl ?_
  exact l_X0_servedSum hb hI 0 (Nat.zero_le _)

set_option maxRecDepth 100000 in
set_option maxHeartbeats 4000000 in
theorem l_X0_townsAimedAt {X : Sc} {h : Hp} {b g : Nat} (hb : InnAt b g) (hI : In (h g)) : ∀ k, k ≤ nG (h g) → Go X RX0 cX0_townsAimedAt 3 2 4 [.ref b, .int (aimS (h g) k), .int (nI k)] [] h (some (.int (aimS (h g) (nG (h g))))) h := by
  have hN := hI.nG.1
  refine loop_up (nG (h g)) ?_ ?_
  · refine g_iload_n dX0_townsAimedAt_4 rfl ?_
    refine g_aload_n dX0_townsAimedAt_5 rfl ?_
    refine g_getI dX0_townsAimedAt_6 fl_X0_37 hb.1 rfl ?_
    refine g_icmp_ge 29 dX0_townsAimedAt_9 (by decide) (fun c9 => ?_) (fun c9 => ?_)
    · refine g_iload_n dX0_townsAimedAt_29 rfl ?_
      exact g_ireturn dX0_townsAimedAt_30 rfl rfl
    · exact (lp_yes (hI.nG.2) (by omega) c9).elim
  · intro k hk ih
    refine g_iload_n dX0_townsAimedAt_4 rfl ?_
    refine g_aload_n dX0_townsAimedAt_5 rfl ?_
    refine g_getI dX0_townsAimedAt_6 fl_X0_37 hb.1 rfl ?_
    refine g_icmp_ge 29 dX0_townsAimedAt_9 (by decide) (fun c9 => ?_) (fun c9 => ?_)
    · exact (lp_no (hI.nG.2) (by omega) hk c9).elim
    · refine g_iload_n dX0_townsAimedAt_12 rfl ?_
      refine g_iconst dX0_townsAimedAt_13 ic_1 ?_
      refine g_aload_n dX0_townsAimedAt_14 rfl ?_
      refine g_iload_n dX0_townsAimedAt_15 rfl ?_
      refine g_iconst dX0_townsAimedAt_16 ic_1 ?_
      refine g_callV2i (c_X0_guestFact (w := 1) hb (by omega) (by decide)) mi_X0_guestFact mv_X0_guestFact ml_X0_57 dX0_townsAimedAt_17 hb.1 rfl (by decide) (Nat.le_of_ble_eq_true rfl) (Nat.le_of_ble_eq_true rfl) ?_
      refine g_ishl dX0_townsAimedAt_20 ?_
      refine g_ior dX0_townsAimedAt_21 ?_
      refine g_istore_n dX0_townsAimedAt_22 (by decide) rfl ?_
      refine g_iinc dX0_townsAimedAt_23 rfl (ii_n _) (by decide) rfl ?_
      refine g_goto 4 dX0_townsAimedAt_26 (by decide) ?_
      exact ih

set_option maxRecDepth 100000 in
set_option maxHeartbeats 4000000 in
theorem c_X0_townsAimedAt {X : Sc} {h : Hp} {b g : Nat} (hb : InnAt b g) (hI : In (h g)) : Ct X yX0_townsAimedAt cX0_townsAimedAt 3 (some .int) 2 [.ref b] h (some (.int (aimS (h g) (nG (h g))))) h := by
  refine ⟨rfl, ?_⟩
  refine g_iconst dX0_townsAimedAt_0 ic_0 ?_
  refine g_istore_n dX0_townsAimedAt_1 (by decide) rfl ?_
  refine g_iconst dX0_townsAimedAt_2 ic_0 ?_
  refine g_istore_n dX0_townsAimedAt_3 (by decide) rfl ?_
  exact l_X0_townsAimedAt hb hI 0 (Nat.zero_le _)

set_option maxRecDepth 100000 in
set_option maxHeartbeats 4000000 in
theorem l_X0_townsBeenIn {X : Sc} {h : Hp} {b g : Nat} (hb : InnAt b g) (hI : In (h g)) : ∀ k, k ≤ nG (h g) → Go X RX0 cX0_townsBeenIn 3 2 4 [.ref b, .int (ben2 (h g) k), .int (nI k)] [] h (some (.int (ben2 (h g) (nG (h g))))) h := by
  have hN := hI.nG.1
  refine loop_up (nG (h g)) ?_ ?_
  · refine g_iload_n dX0_townsBeenIn_4 rfl ?_
    refine g_aload_n dX0_townsBeenIn_5 rfl ?_
    refine g_getI dX0_townsBeenIn_6 fl_X0_37 hb.1 rfl ?_
    refine g_icmp_ge 27 dX0_townsBeenIn_9 (by decide) (fun c9 => ?_) (fun c9 => ?_)
    · refine g_iload_n dX0_townsBeenIn_27 rfl ?_
      exact g_ireturn dX0_townsBeenIn_28 rfl rfl
    · exact (lp_yes (hI.nG.2) (by omega) c9).elim
  · intro k hk ih
    refine g_iload_n dX0_townsBeenIn_4 rfl ?_
    refine g_aload_n dX0_townsBeenIn_5 rfl ?_
    refine g_getI dX0_townsBeenIn_6 fl_X0_37 hb.1 rfl ?_
    refine g_icmp_ge 27 dX0_townsBeenIn_9 (by decide) (fun c9 => ?_) (fun c9 => ?_)
    · exact (lp_no (hI.nG.2) (by omega) hk c9).elim
    · refine g_iload_n dX0_townsBeenIn_12 rfl ?_
      refine g_aload_n dX0_townsBeenIn_13 rfl ?_
      refine g_iload_n dX0_townsBeenIn_14 rfl ?_
      refine g_iconst dX0_townsBeenIn_15 ic_3 ?_
      refine g_callV2i (c_X0_guestFact (w := 3) hb (by omega) (by decide)) mi_X0_guestFact mv_X0_guestFact ml_X0_57 dX0_townsBeenIn_16 hb.1 rfl (by decide) (Nat.le_of_ble_eq_true rfl) (Nat.le_of_ble_eq_true rfl) ?_
      refine g_ior dX0_townsBeenIn_19 ?_
      refine g_istore_n dX0_townsBeenIn_20 (by decide) rfl ?_
      refine g_iinc dX0_townsBeenIn_21 rfl (ii_n _) (by decide) rfl ?_
      refine g_goto 4 dX0_townsBeenIn_24 (by decide) ?_
      exact ih

set_option maxRecDepth 100000 in
set_option maxHeartbeats 4000000 in
theorem c_X0_townsBeenIn {X : Sc} {h : Hp} {b g : Nat} (hb : InnAt b g) (hI : In (h g)) : Ct X yX0_townsBeenIn cX0_townsBeenIn 3 (some .int) 2 [.ref b] h (some (.int (ben2 (h g) (nG (h g))))) h := by
  refine ⟨rfl, ?_⟩
  refine g_iconst dX0_townsBeenIn_0 ic_0 ?_
  refine g_istore_n dX0_townsBeenIn_1 (by decide) rfl ?_
  refine g_iconst dX0_townsBeenIn_2 ic_0 ?_
  refine g_istore_n dX0_townsBeenIn_3 (by decide) rfl ?_
  exact l_X0_townsBeenIn hb hI 0 (Nat.zero_le _)

set_option maxRecDepth 100000 in
set_option maxHeartbeats 4000000 in
theorem l_X0_dishesOnCard {X : Sc} {h : Hp} {b g : Nat} (hb : InnAt b g) (hI : In (h g)) : ∀ k, k ≤ nD (h g) → Go X RX0 cX0_dishesOnCard 3 2 4 [.ref b, .int (crdS (h g) k), .int (nI k)] [] h (some (.int (crdS (h g) (nD (h g))))) h := by
  have hN := hI.nD.1
  refine loop_up (nD (h g)) ?_ ?_
  · refine g_iload_n dX0_dishesOnCard_4 rfl ?_
    refine g_aload_n dX0_dishesOnCard_5 rfl ?_
    refine g_getI dX0_dishesOnCard_6 fl_X0_34 hb.1 rfl ?_
    refine g_icmp_ge 32 dX0_dishesOnCard_9 (by decide) (fun c9 => ?_) (fun c9 => ?_)
    · refine g_iload_n dX0_dishesOnCard_32 rfl ?_
      exact g_ireturn dX0_dishesOnCard_33 rfl rfl
    · exact (lp_yes (hI.nD.2) (by omega) c9).elim
  · intro k hk ih
    refine g_iload_n dX0_dishesOnCard_4 rfl ?_
    refine g_aload_n dX0_dishesOnCard_5 rfl ?_
    refine g_getI dX0_dishesOnCard_6 fl_X0_34 hb.1 rfl ?_
    refine g_icmp_ge 32 dX0_dishesOnCard_9 (by decide) (fun c9 => ?_) (fun c9 => ?_)
    · exact (lp_no (hI.nD.2) (by omega) hk c9).elim
    · refine g_aload_n dX0_dishesOnCard_12 rfl ?_
      refine g_iload_n dX0_dishesOnCard_13 rfl ?_
      refine g_callV1i (c_X0_isOff hb (by omega)) mi_X0_isOff mv_X0_isOff ml_X0_109 dX0_dishesOnCard_14 hb.1 rfl (by decide) (Nat.le_of_ble_eq_true rfl) (Nat.le_of_ble_eq_true rfl) ?_
      refine g_if_ne 26 dX0_dishesOnCard_17 (by decide) (fun c17 => ?_) (fun c17 => ?_)
      · refine g_iinc dX0_dishesOnCard_26 rfl (ii_n _) (by decide) rfl ?_
        refine g_goto 4 dX0_dishesOnCard_29 (by decide) ?_
        first
        | exact g_lv (by simp_all [crdS, bI]) ih
        | exact g_lv (by simp_all [crdS, bI_0]) ih
      · refine g_iload_n dX0_dishesOnCard_20 rfl ?_
        refine g_iconst dX0_dishesOnCard_21 ic_1 ?_
        refine g_iload_n dX0_dishesOnCard_22 rfl ?_
        refine g_ishl dX0_dishesOnCard_23 ?_
        refine g_ior dX0_dishesOnCard_24 ?_
        refine g_istore_n dX0_dishesOnCard_25 (by decide) rfl ?_
        refine g_iinc dX0_dishesOnCard_26 rfl (ii_n _) (by decide) rfl ?_
        refine g_goto 4 dX0_dishesOnCard_29 (by decide) ?_
        first
        | exact g_lv (by simp_all [crdS, bI]) ih
        | exact g_lv (by simp_all [crdS, bI_0]) ih

set_option maxRecDepth 100000 in
set_option maxHeartbeats 4000000 in
theorem c_X0_dishesOnCard {X : Sc} {h : Hp} {b g : Nat} (hb : InnAt b g) (hI : In (h g)) : Ct X yX0_dishesOnCard cX0_dishesOnCard 3 (some .int) 2 [.ref b] h (some (.int (crdS (h g) (nD (h g))))) h := by
  refine ⟨rfl, ?_⟩
  refine g_iconst dX0_dishesOnCard_0 ic_0 ?_
  refine g_istore_n dX0_dishesOnCard_1 (by decide) rfl ?_
  refine g_iconst dX0_dishesOnCard_2 ic_0 ?_
  refine g_istore_n dX0_dishesOnCard_3 (by decide) rfl ?_
  exact l_X0_dishesOnCard hb hI 0 (Nat.zero_le _)

set_option maxRecDepth 100000 in
set_option maxHeartbeats 4000000 in
theorem l_X0_spotsInUse {X : Sc} {h : Hp} {b g : Nat} (hb : InnAt b g) : ∀ k, k ≤ 10 → Go X RX0 cX0_spotsInUse 3 0 4 [.ref b, .int (nI (spoN (h g) k)), .int (nI k)] [] h (some (.int (nI (spoN (h g) 10)))) h := by
  refine loop_up (10) ?_ ?_
  · refine g_iload_n dX0_spotsInUse_4 rfl ?_
    refine g_bipush dX0_spotsInUse_5 bp_10 ?_
    refine g_icmp_ge 29 dX0_spotsInUse_7 (by decide) (fun c7 => ?_) (fun c7 => ?_)
    · refine g_iload_n dX0_spotsInUse_29 rfl ?_
      exact g_ireturn dX0_spotsInUse_30 rfl rfl
    · exact (lp_yes ((rfl : (10 : Int32) = nI 10)) (by decide) c7).elim
  · intro k hk ih
    refine g_iload_n dX0_spotsInUse_4 rfl ?_
    refine g_bipush dX0_spotsInUse_5 bp_10 ?_
    refine g_icmp_ge 29 dX0_spotsInUse_7 (by decide) (fun c7 => ?_) (fun c7 => ?_)
    · exact (lp_no ((rfl : (10 : Int32) = nI 10)) (by decide) hk c7).elim
    · refine g_aload_n dX0_spotsInUse_10 rfl ?_
      refine g_getR dX0_spotsInUse_11 fl_X0_21 hb.1 rfl ?_
      refine g_iload_n dX0_spotsInUse_14 rfl ?_
      refine g_iald k dX0_spotsInUse_15 hb.2.2.2.2 rfl hk ?_
      refine g_iconst dX0_spotsInUse_16 ic_m1 ?_
      refine g_icmp_eq 23 dX0_spotsInUse_17 (by decide) (fun c17 => ?_) (fun c17 => ?_)
      · refine g_iinc dX0_spotsInUse_23 rfl (ii_n _) (by decide) rfl ?_
        refine g_goto 4 dX0_spotsInUse_26 (by decide) ?_
        first
        | exact g_lv (by rw [spoN, if_pos c17]; rfl) ih
        | exact g_lv (by rw [spoN, if_neg c17]; rfl) ih
      · refine g_iinc dX0_spotsInUse_20 rfl (ii_n _) (by decide) rfl ?_
        refine g_iinc dX0_spotsInUse_23 rfl (ii_n _) (by decide) rfl ?_
        refine g_goto 4 dX0_spotsInUse_26 (by decide) ?_
        first
        | exact g_lv (by rw [spoN, if_pos c17]; rfl) ih
        | exact g_lv (by rw [spoN, if_neg c17]; rfl) ih

set_option maxRecDepth 100000 in
set_option maxHeartbeats 4000000 in
theorem c_X0_spotsInUse {X : Sc} {h : Hp} {b g : Nat} (hb : InnAt b g) : Ct X yX0_spotsInUse cX0_spotsInUse 3 (some .int) 0 [.ref b] h (some (.int (nI (spoN (h g) 10)))) h := by
  refine ⟨rfl, ?_⟩
  refine g_iconst dX0_spotsInUse_0 ic_0 ?_
  refine g_istore_n dX0_spotsInUse_1 (by decide) rfl ?_
  refine g_iconst dX0_spotsInUse_2 ic_0 ?_
  refine g_istore_n dX0_spotsInUse_3 (by decide) rfl ?_
  exact l_X0_spotsInUse hb 0 (by decide)

set_option maxRecDepth 100000 in
set_option maxHeartbeats 4000000 in
theorem l_X0_deepestInDebt {X : Sc} {h : Hp} {b g : Nat} (hb : InnAt b g) (hI : In (h g)) : ∀ k, k ≤ nG (h g) → Go X RX0 cX0_deepestInDebt 4 1 6 [.ref b, .int (debG (h g) k).1, .int (debG (h g) k).2, .int (nI k)] [] h (some (.int (debG (h g) (nG (h g))).1)) h := by
  have hN := hI.nG.1
  refine loop_up (nG (h g)) ?_ ?_
  · refine g_iload_n dX0_deepestInDebt_6 rfl ?_
    refine g_aload_n dX0_deepestInDebt_7 rfl ?_
    refine g_getI dX0_deepestInDebt_8 fl_X0_37 hb.1 rfl ?_
    refine g_icmp_ge 39 dX0_deepestInDebt_11 (by decide) (fun c11 => ?_) (fun c11 => ?_)
    · refine g_iload_n dX0_deepestInDebt_39 rfl ?_
      exact g_ireturn dX0_deepestInDebt_40 rfl rfl
    · exact (lp_yes (hI.nG.2) (by omega) c11).elim
  · intro k hk ih
    refine g_iload_n dX0_deepestInDebt_6 rfl ?_
    refine g_aload_n dX0_deepestInDebt_7 rfl ?_
    refine g_getI dX0_deepestInDebt_8 fl_X0_37 hb.1 rfl ?_
    refine g_icmp_ge 39 dX0_deepestInDebt_11 (by decide) (fun c11 => ?_) (fun c11 => ?_)
    · exact (lp_no (hI.nG.2) (by omega) hk c11).elim
    · refine g_aload_n dX0_deepestInDebt_14 rfl ?_
      refine g_iload_n dX0_deepestInDebt_15 rfl ?_
      refine g_iconst dX0_deepestInDebt_16 ic_2 ?_
      refine g_callV2i (c_X0_guestFact (w := 2) hb (by omega) (by decide)) mi_X0_guestFact mv_X0_guestFact ml_X0_57 dX0_deepestInDebt_17 hb.1 rfl (by decide) (Nat.le_of_ble_eq_true rfl) (Nat.le_of_ble_eq_true rfl) ?_
      refine g_iload_n dX0_deepestInDebt_20 rfl ?_
      refine g_icmp_le 33 dX0_deepestInDebt_21 (by decide) (fun c21 => ?_) (fun c21 => ?_)
      · refine g_iinc dX0_deepestInDebt_33 rfl (ii_n _) (by decide) rfl ?_
        refine g_goto 6 dX0_deepestInDebt_36 (by decide) ?_
        first
        | exact g_lv (by rw [debG, if_pos c21]; rfl) ih
        | exact g_lv (by rw [debG, if_neg c21]; rfl) ih
      · refine g_aload_n dX0_deepestInDebt_24 rfl ?_
        refine g_iload_n dX0_deepestInDebt_25 rfl ?_
        refine g_iconst dX0_deepestInDebt_26 ic_2 ?_
        refine g_callV2i (c_X0_guestFact (w := 2) hb (by omega) (by decide)) mi_X0_guestFact mv_X0_guestFact ml_X0_57 dX0_deepestInDebt_27 hb.1 rfl (by decide) (Nat.le_of_ble_eq_true rfl) (Nat.le_of_ble_eq_true rfl) ?_
        refine g_istore_n dX0_deepestInDebt_30 (by decide) rfl ?_
        refine g_iload_n dX0_deepestInDebt_31 rfl ?_
        refine g_istore_n dX0_deepestInDebt_32 (by decide) rfl ?_
        refine g_iinc dX0_deepestInDebt_33 rfl (ii_n _) (by decide) rfl ?_
        refine g_goto 6 dX0_deepestInDebt_36 (by decide) ?_
        first
        | exact g_lv (by rw [debG, if_pos c21]; rfl) ih
        | exact g_lv (by rw [debG, if_neg c21]; rfl) ih

set_option maxRecDepth 100000 in
set_option maxHeartbeats 4000000 in
theorem c_X0_deepestInDebt {X : Sc} {h : Hp} {b g : Nat} (hb : InnAt b g) (hI : In (h g)) : Ct X yX0_deepestInDebt cX0_deepestInDebt 4 (some .int) 1 [.ref b] h (some (.int (debG (h g) (nG (h g))).1)) h := by
  refine ⟨rfl, ?_⟩
  refine g_iconst dX0_deepestInDebt_0 ic_m1 ?_
  refine g_istore_n dX0_deepestInDebt_1 (by decide) rfl ?_
  refine g_iconst dX0_deepestInDebt_2 ic_m1 ?_
  refine g_istore_n dX0_deepestInDebt_3 (by decide) rfl ?_
  refine g_iconst dX0_deepestInDebt_4 ic_0 ?_
  refine g_istore_n dX0_deepestInDebt_5 (by decide) rfl ?_
  exact l_X0_deepestInDebt hb hI 0 (Nat.zero_le _)

