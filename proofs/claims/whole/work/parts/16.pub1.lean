/-! WHAT A CALL TELLS: a finding (its number), or an answer and a new row -/
abbrev Oc : Type := Nat ⊕ (Int32 × Rw)
def fvl (k : Nat) : Int32 := -1000001 - nI k
theorem fvl_0 : fvl 0 = -1000001 := by decide
theorem fvl_1 : fvl 1 = -1000002 := by decide
theorem fvl_2 : fvl 2 = -1000003 := by decide
theorem fvl_3 : fvl 3 = -1000004 := by decide
theorem fvl_4 : fvl 4 = -1000005 := by decide
theorem fvl_5 : fvl 5 = -1000006 := by decide
theorem fvl_6 : fvl 6 = -1000007 := by decide
def oV : Oc → Int32
  | .inl k => fvl k
  | .inr q => q.1
def oC (h : Hp) : Oc → Hp
  | .inl k => setg h 5 (inc (h 5) k)
  | .inr q => setg h 1 q.2
def oM (h : Hp) : Oc → Hp
  | .inl k => setg h 15 (inc (h 15) k)
  | .inr q => setg h 11 q.2
def tn (x : Int32) : Nat := x.toNatClampNeg
theorem inB_of {x : Int32} (n : Nat) (hn : n < 2 ^ 31) (h : inB x 0 (nI n) = true) : ∃ j, j ≤ n ∧ tn (nI j) = j ∧ x = nI j := by
  unfold inB at h
  simp only [Bool.and_eq_true, Bool.not_eq_true', decide_eq_false_iff_not] at h
  obtain ⟨j, hj, rfl⟩ := nI_of h.1
  have h2 : j ≤ n := by
    rcases Nat.lt_or_ge n j with q | q
    · exact absurd (nI_lt q hj) h.2
    · exact q
  exact ⟨j, h2, nI_clamp hj, rfl⟩
theorem inB_of1 {x : Int32} (n : Nat) (hn : n < 2 ^ 31) (h : inB x 1 (nI n) = true) : ∃ j, 1 ≤ j ∧ j ≤ n ∧ tn (nI j) = j ∧ x = nI j := by
  unfold inB at h
  simp only [Bool.and_eq_true, Bool.not_eq_true', decide_eq_false_iff_not] at h
  have h0 : ¬ x < 0 := fun q => h.1 (Int32.lt_trans q (by decide))
  obtain ⟨j, hj, rfl⟩ := nI_of h0
  have h2 : j ≤ n := by
    rcases Nat.lt_or_ge n j with q | q
    · exact absurd (nI_lt q hj) h.2
    · exact q
  have h3 : 1 ≤ j := by
    rcases Nat.lt_or_ge j 1 with q | q
    · exact absurd (nI_lt (b := 1) q (by decide)) h.1
    · exact q
  exact ⟨j, h3, h2, nI_clamp hj, rfl⟩
theorem isD_of2 {m : Rw} (h : In m) {x : Int32} (hx : isD m x = true) : ∃ d, d < nD m ∧ d < 8 ∧ tn (nI d) = d ∧ x = nI d := by
  obtain ⟨d, h1, h2, h3⟩ := isD_of h hx
  exact ⟨d, h1, h2, nI_clamp (by omega), h3⟩
theorem isG_of2 {m : Rw} (h : In m) {x : Int32} (hx : isG m x = true) : ∃ d, d < nG m ∧ d < 6 ∧ tn (nI d) = d ∧ x = nI d := by
  obtain ⟨d, h1, h2, h3⟩ := isG_of h hx
  exact ⟨d, h1, h2, nI_clamp (by omega), h3⟩
theorem nb0 {b : Bool} (h : ¬ bI b = 0) : b = true := by cases b <;> simp_all [bI]
theorem b0 {b : Bool} (h : bI b = 0) : b = false := by cases b <;> simp_all [bI]
theorem fk_in : ∀ k, k < 7 → ¬ bI (inB (nI k) 0 6) = 0 := by decide
def f_list (m : Rw) (i g d : Int32) : Oc := if inB i 0 5 && inB g 0 5 && inB d 0 7 then .inr (m (4 + tn i), upd m (4 + tn i) (10 * g + d)) else .inl 0
def f_listed (m : Rw) (i : Int32) : Oc := if inB i 0 5 then .inr (m (4 + tn i), m) else .inl 0
def f_dish (m : Rw) (k a b : Int32) : Oc := if inB k 0 6 && inB a 0 11 && inB b 0 11 then (if nD m = 8 then .inl 1 else .inr (nI (nD m), newD m k a b)) else .inl 0
def f_guest (m : Rw) (b : Int32) : Oc := if inB b 0 99 then (if nG m = 6 then .inl 1 else .inr (nI (nG m), newG m b)) else .inl 0
def f_of (m : Rw) (d k : Int32) : Oc := if isD m d && inB k 0 5 then .inr (dF m (tn d) (tn k), m) else .inl 0
def f_change (m : Rw) (d k v : Int32) : Oc := if isD m d && inB k 0 5 && inB v 0 (dshTops.getD (tn k) 0) then .inr (dF m (tn d) (tn k), pD m (tn d) (tn k) v) else .inl 0
def f_ofGuest (m : Rw) (d k : Int32) : Oc := if isG m d && inB k 0 4 then .inr (gF m (tn d) (tn k), m) else .inl 0
def f_seat (m : Rw) (d k v : Int32) : Oc := if isG m d && inB k 0 4 && inB v 0 (gstTops.getD (tn k) 0) then .inr (gF m (tn d) (tn k), pG m (tn d) (tn k) v) else .inl 0
def f_would (m : Rw) (g d k : Int32) : Oc := if isG m g && isD m d then (if k = 0 then .inr (bI (lft m (tn g) (tn d)), m) else if k = 1 then .inr (cst m (tn g) (tn d) (lft m (tn g) (tn d)), m) else if k = 2 then .inr (bnd (dF m (tn d) 0) (lft m (tn g) (tn d)), m) else if k = 3 then .inr (twn m (tn d) (lft m (tn g) (tn d)), m) else .inl 0) else .inl 0
def f_eat (m : Rw) (g d : Int32) : Oc := if isG m g && isD m d then (if dF m (tn d) 5 = 1 then .inl 4 else .inr (twn m (tn d) (lft m (tn g) (tn d)), eatR m (tn g) (tn d))) else .inl 0
def f_go (m : Rw) (n : Int32) : Oc := if inB n 1 60 then (if m 0 + n ≤ 99999 then .inr (bilS (daysR m (tn n)) (nG (daysR m (tn n))), daysR m (tn n)) else .inl 4) else .inl 0
def f_now (m : Rw) (k : Int32) : Oc := if k = 0 then .inr (m 0, m) else if k = 1 then .inr (bilS m (nG m), m) else if k = 2 then .inr (aimS m (nG m), m) else if k = 3 then .inr (ben2 m (nG m), m) else if k = 4 then .inr (srvS m (nD m), m) else if k = 5 then .inr (nI (parM m (nG m)), m) else if k = 6 then .inr (crdS m (nD m), m) else if k = 7 then .inr ((debG m (nG m)).1, m) else .inl 0
theorem twn_eat {m : Rw} {e d : Nat} (hd : d < 8) : gF (eatR m e d) e 1 = twn m d (lft m e d) := by
  unfold eatR
  rw [gF_pD _ _ hd (by decide), gF_pGn _ _ _ (by decide), gF_pGn _ _ _ (by decide), gF_pGn _ _ _ (by decide), gF_pG]
set_option maxRecDepth 100000 in
set_option maxHeartbeats 4000000 in
theorem c_X3_within {X : Sc} {h : Hp} {v lo hi : Int32} : Ct X yX3_within cX3_within 3 (some .boolean) 0 [.int v, .int lo, .int hi] h (some (.int (bI (inB v lo hi)))) h := by
  refine ⟨rok_b _, ?_⟩
  refine g_iload_n dX3_within_0 rfl ?_
  refine g_iload_n dX3_within_1 rfl ?_
  refine g_icmp_lt 14 dX3_within_2 (by decide) (fun c2 => ?_) (fun c2 => ?_)
  · refine g_iconst dX3_within_14 ic_0 ?_
    exact g_ireturn dX3_within_15 (by simp [inB, bI, *]) rfl
  · refine g_iload_n dX3_within_5 rfl ?_
    refine g_iload_n dX3_within_6 rfl ?_
    refine g_icmp_gt 14 dX3_within_7 (by decide) (fun c7 => ?_) (fun c7 => ?_)
    · refine g_iconst dX3_within_14 ic_0 ?_
      exact g_ireturn dX3_within_15 (by simp [inB, bI, *]) rfl
    · refine g_iconst dX3_within_10 ic_1 ?_
      refine g_goto 15 dX3_within_11 (by decide) ?_
      exact g_ireturn dX3_within_15 (by simp [inB, bI, *]) rfl

set_option maxRecDepth 100000 in
set_option maxHeartbeats 4000000 in
theorem c_X3_isPlace {X : Sc} {h : Hp} {x : Int32} : Ct X yX3_isPlace cX3_isPlace 1 (some .boolean) 1 [.int x] h (some (.int (bI (inB x 0 5)))) h := by
  refine ⟨rok_b _, ?_⟩
  refine g_iload_n dX3_isPlace_0 rfl ?_
  refine g_iconst dX3_isPlace_1 ic_0 ?_
  refine g_iconst dX3_isPlace_2 ic_5 ?_
  refine g_callS3i (c_X3_within) mi_X3_within ms_X3_within ml_X3_48 dX3_isPlace_3 (by decide) (Nat.le_of_ble_eq_true rfl) (Nat.le_of_ble_eq_true rfl) ?_
  exact g_ireturn dX3_isPlace_6 rfl rfl

set_option maxRecDepth 100000 in
set_option maxHeartbeats 4000000 in
theorem c_X3_isKind {X : Sc} {h : Hp} {x : Int32} : Ct X yX3_isKind cX3_isKind 1 (some .boolean) 1 [.int x] h (some (.int (bI (inB x 0 6)))) h := by
  refine ⟨rok_b _, ?_⟩
  refine g_iload_n dX3_isKind_0 rfl ?_
  refine g_iconst dX3_isKind_1 ic_0 ?_
  refine g_bipush dX3_isKind_2 bp_6 ?_
  refine g_callS3i (c_X3_within) mi_X3_within ms_X3_within ml_X3_48 dX3_isKind_4 (by decide) (Nat.le_of_ble_eq_true rfl) (Nat.le_of_ble_eq_true rfl) ?_
  exact g_ireturn dX3_isKind_7 rfl rfl

set_option maxRecDepth 100000 in
set_option maxHeartbeats 4000000 in
theorem c_X3_isTown {X : Sc} {h : Hp} {x : Int32} : Ct X yX3_isTown cX3_isTown 1 (some .boolean) 1 [.int x] h (some (.int (bI (inB x 0 11)))) h := by
  refine ⟨rok_b _, ?_⟩
  refine g_iload_n dX3_isTown_0 rfl ?_
  refine g_iconst dX3_isTown_1 ic_0 ?_
  refine g_bipush dX3_isTown_2 bp_11 ?_
  refine g_callS3i (c_X3_within) mi_X3_within ms_X3_within ml_X3_48 dX3_isTown_4 (by decide) (Nat.le_of_ble_eq_true rfl) (Nat.le_of_ble_eq_true rfl) ?_
  exact g_ireturn dX3_isTown_7 rfl rfl

set_option maxRecDepth 100000 in
set_option maxHeartbeats 4000000 in
theorem c_X3_isBent {X : Sc} {h : Hp} {x : Int32} : Ct X yX3_isBent cX3_isBent 1 (some .boolean) 1 [.int x] h (some (.int (bI (inB x 0 99)))) h := by
  refine ⟨rok_b _, ?_⟩
  refine g_iload_n dX3_isBent_0 rfl ?_
  refine g_iconst dX3_isBent_1 ic_0 ?_
  refine g_bipush dX3_isBent_2 bp_99 ?_
  refine g_callS3i (c_X3_within) mi_X3_within ms_X3_within ml_X3_48 dX3_isBent_4 (by decide) (Nat.le_of_ble_eq_true rfl) (Nat.le_of_ble_eq_true rfl) ?_
  exact g_ireturn dX3_isBent_7 rfl rfl

set_option maxRecDepth 100000 in
set_option maxHeartbeats 4000000 in
theorem c_X3_isGuestFact {X : Sc} {h : Hp} {x : Int32} : Ct X yX3_isGuestFact cX3_isGuestFact 1 (some .boolean) 1 [.int x] h (some (.int (bI (inB x 0 4)))) h := by
  refine ⟨rok_b _, ?_⟩
  refine g_iload_n dX3_isGuestFact_0 rfl ?_
  refine g_iconst dX3_isGuestFact_1 ic_0 ?_
  refine g_iconst dX3_isGuestFact_2 ic_4 ?_
  refine g_callS3i (c_X3_within) mi_X3_within ms_X3_within ml_X3_48 dX3_isGuestFact_3 (by decide) (Nat.le_of_ble_eq_true rfl) (Nat.le_of_ble_eq_true rfl) ?_
  exact g_ireturn dX3_isGuestFact_6 rfl rfl

set_option maxRecDepth 100000 in
set_option maxHeartbeats 4000000 in
theorem c_X3_isSpot {X : Sc} {h : Hp} {x : Int32} : Ct X yX3_isSpot cX3_isSpot 1 (some .boolean) 1 [.int x] h (some (.int (bI (inB x 0 9)))) h := by
  refine ⟨rok_b _, ?_⟩
  refine g_iload_n dX3_isSpot_0 rfl ?_
  refine g_iconst dX3_isSpot_1 ic_0 ?_
  refine g_bipush dX3_isSpot_2 bp_9 ?_
  refine g_callS3i (c_X3_within) mi_X3_within ms_X3_within ml_X3_48 dX3_isSpot_4 (by decide) (Nat.le_of_ble_eq_true rfl) (Nat.le_of_ble_eq_true rfl) ?_
  exact g_ireturn dX3_isSpot_7 rfl rfl

set_option maxRecDepth 100000 in
set_option maxHeartbeats 4000000 in
theorem c_X3_isSheet {X : Sc} {h : Hp} {x : Int32} : Ct X yX3_isSheet cX3_isSheet 1 (some .boolean) 1 [.int x] h (some (.int (bI (inB x 0 3)))) h := by
  refine ⟨rok_b _, ?_⟩
  refine g_iload_n dX3_isSheet_0 rfl ?_
  refine g_iconst dX3_isSheet_1 ic_0 ?_
  refine g_iconst dX3_isSheet_2 ic_3 ?_
  refine g_callS3i (c_X3_within) mi_X3_within ms_X3_within ml_X3_48 dX3_isSheet_3 (by decide) (Nat.le_of_ble_eq_true rfl) (Nat.le_of_ble_eq_true rfl) ?_
  exact g_ireturn dX3_isSheet_6 rfl rfl

set_option maxRecDepth 100000 in
set_option maxHeartbeats 4000000 in
theorem c_X3_found {X : Sc} {h : Hp} {x : Int32} (k : Nat) (hk : k < 7) (hx : -1000001 - x = nI k) : Ct X yX3_found cX3_found 3 (some .int) 1 [.ref 0, .int x] h (some (.int x)) (setg h 5 (inc (h 5) k)) := by
  refine ⟨rfl, ?_⟩
  refine g_ldc dX3_found_0 lc_X3_52 ?_
  refine g_iload_n dX3_found_2 rfl ?_
  refine g_isub dX3_found_3 ?_
  refine g_st (st2 := [.int (nI k)]) (by rw [hx]) ?_
  refine g_istore_n dX3_found_4 (by decide) rfl ?_
  refine g_iload_n dX3_found_5 rfl ?_
  refine g_iconst dX3_found_6 ic_0 ?_
  refine g_bipush dX3_found_7 bp_6 ?_
  refine g_callS3i (c_X3_within) mi_X3_within ms_X3_within ml_X3_48 dX3_found_9 (by decide) (Nat.le_of_ble_eq_true rfl) (Nat.le_of_ble_eq_true rfl) ?_
  refine g_if_eq 25 dX3_found_12 (by decide) (fun c12 => ?_) (fun c12 => ?_)
  · exact absurd c12 (fk_in k hk)
  · refine g_aload_n dX3_found_15 rfl ?_
    refine g_getR dX3_found_16 fl_X3_36 rfl rfl ?_
    refine g_iload_n dX3_found_19 rfl ?_
    refine g_dup2 dX3_found_20 rfl rfl ?_
    refine g_iald0 k dX3_found_21 rfl rfl hk ?_
    refine g_iconst dX3_found_22 ic_1 ?_
    refine g_iadd dX3_found_23 ?_
    refine g_iast0 k dX3_found_24 rfl rfl hk ?_
    refine g_iload_n dX3_found_25 rfl ?_
    exact g_ireturn dX3_found_26 rfl (up_setg _ _ _ _)

set_option maxRecDepth 100000 in
set_option maxHeartbeats 4000000 in
theorem c_X3_list {X : Sc} {h : Hp} (hI : In (h 1)) {i gu di : Int32} : Ct X yX3_list cX3_list 5 (some .int) 2 [.ref 0, .int i, .int gu, .int di] h (some (.int (oV (f_list (h 1) i gu di)))) (oC h (f_list (h 1) i gu di)) := by
  refine ⟨rfl, ?_⟩
  refine g_iload_n dX3_list_0 rfl ?_
  refine g_callS1i (c_X3_isPlace) mi_X3_isPlace ms_X3_isPlace ml_X3_44 dX3_list_1 (by decide) (Nat.le_of_ble_eq_true rfl) (Nat.le_of_ble_eq_true rfl) ?_
  refine g_if_eq 26 dX3_list_4 (by decide) (fun c4 => ?_) (fun c4 => ?_)
  · refine g_aload_n dX3_list_26 rfl ?_
    refine g_ldc dX3_list_27 lc_X3_52 ?_
    refine g_callV1i (c_X3_found 0 (by decide) (by decide)) mi_X3_found mv_X3_found ml_X3_53 dX3_list_29 rfl rfl (by decide) (Nat.le_of_ble_eq_true rfl) (Nat.le_of_ble_eq_true rfl) ?_
    exact g_ireturn dX3_list_32 (by simp_all [f_list, oV, fvl_0, fvl_1, fvl_2, fvl_3, fvl_4, fvl_5, fvl_6, bI_0]) (by simp_all [f_list, oC, bI_0, setg_id])
  · refine g_iload_n dX3_list_7 rfl ?_
    refine g_iconst dX3_list_8 ic_0 ?_
    refine g_iconst dX3_list_9 ic_5 ?_
    refine g_callS3i (c_X3_within) mi_X3_within ms_X3_within ml_X3_48 dX3_list_10 (by decide) (Nat.le_of_ble_eq_true rfl) (Nat.le_of_ble_eq_true rfl) ?_
    refine g_if_eq 26 dX3_list_13 (by decide) (fun c13 => ?_) (fun c13 => ?_)
    · refine g_aload_n dX3_list_26 rfl ?_
      refine g_ldc dX3_list_27 lc_X3_52 ?_
      refine g_callV1i (c_X3_found 0 (by decide) (by decide)) mi_X3_found mv_X3_found ml_X3_53 dX3_list_29 rfl rfl (by decide) (Nat.le_of_ble_eq_true rfl) (Nat.le_of_ble_eq_true rfl) ?_
      exact g_ireturn dX3_list_32 (by simp_all [f_list, oV, fvl_0, fvl_1, fvl_2, fvl_3, fvl_4, fvl_5, fvl_6, bI_0]) (by simp_all [f_list, oC, bI_0, setg_id])
    · refine g_iload_n dX3_list_16 rfl ?_
      refine g_iconst dX3_list_17 ic_0 ?_
      refine g_bipush dX3_list_18 bp_7 ?_
      refine g_callS3i (c_X3_within) mi_X3_within ms_X3_within ml_X3_48 dX3_list_20 (by decide) (Nat.le_of_ble_eq_true rfl) (Nat.le_of_ble_eq_true rfl) ?_
      refine g_if_ne 33 dX3_list_23 (by decide) (fun c23 => ?_) (fun c23 => ?_)
      · obtain ⟨j, hj, tj, rfl⟩ := inB_of 5 (by decide) (nb0 c4)
        refine g_aload_n dX3_list_33 rfl ?_
        refine g_getR dX3_list_34 fl_X3_12 rfl rfl ?_
        refine g_getR dX3_list_37 fl_X3_57 rfl rfl ?_
        refine g_iload_n dX3_list_40 rfl ?_
        refine g_iald j dX3_list_41 rfl rfl (by omega) ?_
        refine g_istore dX3_list_42 (by decide) rfl ?_
        refine g_aload_n dX3_list_44 rfl ?_
        refine g_getR dX3_list_45 fl_X3_12 rfl rfl ?_
        refine g_iload_n dX3_list_48 rfl ?_
        refine g_iload_n dX3_list_49 rfl ?_
        refine g_iload_n dX3_list_50 rfl ?_
        refine g_callV3v (c_X0_planMeal inn1 (by omega)) mi_X0_planMeal mv_X0_planMeal ml_X3_60 dX3_list_51 rfl rfl (by decide) (Nat.le_of_ble_eq_true rfl) (Nat.le_of_ble_eq_true rfl) ?_
        refine g_iload dX3_list_54 rfl ?_
        exact g_ireturn dX3_list_56 (by simp_all [f_list, oV, fvl_0, fvl_1, fvl_2, fvl_3, fvl_4, fvl_5, fvl_6, bI_0]) (by simp_all [f_list, oC, bI_0, setg_id])
      · refine g_aload_n dX3_list_26 rfl ?_
        refine g_ldc dX3_list_27 lc_X3_52 ?_
        refine g_callV1i (c_X3_found 0 (by decide) (by decide)) mi_X3_found mv_X3_found ml_X3_53 dX3_list_29 rfl rfl (by decide) (Nat.le_of_ble_eq_true rfl) (Nat.le_of_ble_eq_true rfl) ?_
        exact g_ireturn dX3_list_32 (by simp_all [f_list, oV, fvl_0, fvl_1, fvl_2, fvl_3, fvl_4, fvl_5, fvl_6, bI_0]) (by simp_all [f_list, oC, bI_0, setg_id])

set_option maxRecDepth 100000 in
set_option maxHeartbeats 4000000 in
theorem c_X3_listed {X : Sc} {h : Hp} (hI : In (h 1)) {i : Int32} : Ct X yX3_listed cX3_listed 2 (some .int) 2 [.ref 0, .int i] h (some (.int (oV (f_listed (h 1) i)))) (oC h (f_listed (h 1) i)) := by
  refine ⟨rfl, ?_⟩
  refine g_iload_n dX3_listed_0 rfl ?_
  refine g_callS1i (c_X3_isPlace) mi_X3_isPlace ms_X3_isPlace ml_X3_44 dX3_listed_1 (by decide) (Nat.le_of_ble_eq_true rfl) (Nat.le_of_ble_eq_true rfl) ?_
  refine g_if_ne 14 dX3_listed_4 (by decide) (fun c4 => ?_) (fun c4 => ?_)
  · obtain ⟨j, hj, tj, rfl⟩ := inB_of 5 (by decide) (nb0 c4)
    refine g_aload_n dX3_listed_14 rfl ?_
    refine g_getR dX3_listed_15 fl_X3_12 rfl rfl ?_
    refine g_getR dX3_listed_18 fl_X3_57 rfl rfl ?_
    refine g_iload_n dX3_listed_21 rfl ?_
    refine g_iald j dX3_listed_22 rfl rfl (by omega) ?_
    exact g_ireturn dX3_listed_23 (by simp_all [f_listed, oV, fvl_0, fvl_1, fvl_2, fvl_3, fvl_4, fvl_5, fvl_6, bI_0]) (by simp_all [f_listed, oC, bI_0, setg_id])
  · refine g_aload_n dX3_listed_7 rfl ?_
    refine g_ldc dX3_listed_8 lc_X3_52 ?_
    refine g_callV1i (c_X3_found 0 (by decide) (by decide)) mi_X3_found mv_X3_found ml_X3_53 dX3_listed_10 rfl rfl (by decide) (Nat.le_of_ble_eq_true rfl) (Nat.le_of_ble_eq_true rfl) ?_
    exact g_ireturn dX3_listed_13 (by simp_all [f_listed, oV, fvl_0, fvl_1, fvl_2, fvl_3, fvl_4, fvl_5, fvl_6, bI_0]) (by simp_all [f_listed, oC, bI_0, setg_id])

set_option maxRecDepth 100000 in
set_option maxHeartbeats 4000000 in
theorem c_X3_dish {X : Sc} {h : Hp} (hI : In (h 1)) {k a b : Int32} : Ct X yX3_dish cX3_dish 4 (some .int) 2 [.ref 0, .int k, .int a, .int b] h (some (.int (oV (f_dish (h 1) k a b)))) (oC h (f_dish (h 1) k a b)) := by
  refine ⟨rfl, ?_⟩
  refine g_iload_n dX3_dish_0 rfl ?_
  refine g_callS1i (c_X3_isKind) mi_X3_isKind ms_X3_isKind ml_X3_64 dX3_dish_1 (by decide) (Nat.le_of_ble_eq_true rfl) (Nat.le_of_ble_eq_true rfl) ?_
  refine g_if_eq 21 dX3_dish_4 (by decide) (fun c4 => ?_) (fun c4 => ?_)
  · refine g_aload_n dX3_dish_21 rfl ?_
    refine g_ldc dX3_dish_22 lc_X3_52 ?_
    refine g_callV1i (c_X3_found 0 (by decide) (by decide)) mi_X3_found mv_X3_found ml_X3_53 dX3_dish_24 rfl rfl (by decide) (Nat.le_of_ble_eq_true rfl) (Nat.le_of_ble_eq_true rfl) ?_
    exact g_ireturn dX3_dish_27 (by simp_all [f_dish, oV, fvl_0, fvl_1, fvl_2, fvl_3, fvl_4, fvl_5, fvl_6, bI_0]) (by simp_all [f_dish, oC, bI_0, setg_id])
  · refine g_iload_n dX3_dish_7 rfl ?_
    refine g_callS1i (c_X3_isTown) mi_X3_isTown ms_X3_isTown ml_X3_67 dX3_dish_8 (by decide) (Nat.le_of_ble_eq_true rfl) (Nat.le_of_ble_eq_true rfl) ?_
    refine g_if_eq 21 dX3_dish_11 (by decide) (fun c11 => ?_) (fun c11 => ?_)
    · refine g_aload_n dX3_dish_21 rfl ?_
      refine g_ldc dX3_dish_22 lc_X3_52 ?_
      refine g_callV1i (c_X3_found 0 (by decide) (by decide)) mi_X3_found mv_X3_found ml_X3_53 dX3_dish_24 rfl rfl (by decide) (Nat.le_of_ble_eq_true rfl) (Nat.le_of_ble_eq_true rfl) ?_
      exact g_ireturn dX3_dish_27 (by simp_all [f_dish, oV, fvl_0, fvl_1, fvl_2, fvl_3, fvl_4, fvl_5, fvl_6, bI_0]) (by simp_all [f_dish, oC, bI_0, setg_id])
    · refine g_iload_n dX3_dish_14 rfl ?_
      refine g_callS1i (c_X3_isTown) mi_X3_isTown ms_X3_isTown ml_X3_67 dX3_dish_15 (by decide) (Nat.le_of_ble_eq_true rfl) (Nat.le_of_ble_eq_true rfl) ?_
      refine g_if_ne 28 dX3_dish_18 (by decide) (fun c18 => ?_) (fun c18 => ?_)
      · refine g_aload_n dX3_dish_28 rfl ?_
        refine g_getR dX3_dish_29 fl_X3_12 rfl rfl ?_
        refine g_getI dX3_dish_32 fl_X3_70 rfl rfl ?_
        refine g_bipush dX3_dish_35 bp_8 ?_
        refine g_icmp_lt 47 dX3_dish_37 (by decide) (fun c37 => ?_) (fun c37 => ?_)
        · have h8 : ¬ nD (h 1) = 8 := by intro q; rw [hI.nD.2, q] at c37; exact absurd c37 (by decide)
          have n8 := hI.nD.1
          refine g_aload_n dX3_dish_47 rfl ?_
          refine g_getR dX3_dish_48 fl_X3_12 rfl rfl ?_
          refine g_iload_n dX3_dish_51 rfl ?_
          refine g_iload_n dX3_dish_52 rfl ?_
          refine g_iload_n dX3_dish_53 rfl ?_
          refine g_callV3i (c_X0_addDish inn1 hI.nD.2 (by omega)) mi_X0_addDish mv_X0_addDish ml_X3_75 dX3_dish_54 rfl rfl (by decide) (Nat.le_of_ble_eq_true rfl) (Nat.le_of_ble_eq_true rfl) ?_
          exact g_ireturn dX3_dish_57 (by simp_all [f_dish, oV, fvl_0, fvl_1, fvl_2, fvl_3, fvl_4, fvl_5, fvl_6, bI_0]) (by simp_all [f_dish, oC, bI_0, setg_id])
        · have h8 : nD (h 1) = 8 := by
            have n8 := hI.nD.1
            rcases Nat.lt_or_ge (nD (h 1)) 8 with q | q
            · exact absurd (by rw [hI.nD.2]; exact nI_lt (b := 8) q (by decide)) c37
            · omega
          refine g_aload_n dX3_dish_40 rfl ?_
          refine g_ldc dX3_dish_41 lc_X3_74 ?_
          refine g_callV1i (c_X3_found 1 (by decide) (by decide)) mi_X3_found mv_X3_found ml_X3_53 dX3_dish_43 rfl rfl (by decide) (Nat.le_of_ble_eq_true rfl) (Nat.le_of_ble_eq_true rfl) ?_
          exact g_ireturn dX3_dish_46 (by simp_all [f_dish, oV, fvl_0, fvl_1, fvl_2, fvl_3, fvl_4, fvl_5, fvl_6, bI_0]) (by simp_all [f_dish, oC, bI_0, setg_id])
      · refine g_aload_n dX3_dish_21 rfl ?_
        refine g_ldc dX3_dish_22 lc_X3_52 ?_
        refine g_callV1i (c_X3_found 0 (by decide) (by decide)) mi_X3_found mv_X3_found ml_X3_53 dX3_dish_24 rfl rfl (by decide) (Nat.le_of_ble_eq_true rfl) (Nat.le_of_ble_eq_true rfl) ?_
        exact g_ireturn dX3_dish_27 (by simp_all [f_dish, oV, fvl_0, fvl_1, fvl_2, fvl_3, fvl_4, fvl_5, fvl_6, bI_0]) (by simp_all [f_dish, oC, bI_0, setg_id])

set_option maxRecDepth 100000 in
set_option maxHeartbeats 4000000 in
theorem c_X3_guest {X : Sc} {h : Hp} (hI : In (h 1)) {b : Int32} : Ct X yX3_guest cX3_guest 2 (some .int) 2 [.ref 0, .int b] h (some (.int (oV (f_guest (h 1) b)))) (oC h (f_guest (h 1) b)) := by
  refine ⟨rfl, ?_⟩
  refine g_iload_n dX3_guest_0 rfl ?_
  refine g_callS1i (c_X3_isBent) mi_X3_isBent ms_X3_isBent ml_X3_79 dX3_guest_1 (by decide) (Nat.le_of_ble_eq_true rfl) (Nat.le_of_ble_eq_true rfl) ?_
  refine g_if_ne 14 dX3_guest_4 (by decide) (fun c4 => ?_) (fun c4 => ?_)
  · refine g_aload_n dX3_guest_14 rfl ?_
    refine g_getR dX3_guest_15 fl_X3_12 rfl rfl ?_
    refine g_getI dX3_guest_18 fl_X3_82 rfl rfl ?_
    refine g_bipush dX3_guest_21 bp_6 ?_
    refine g_icmp_lt 33 dX3_guest_23 (by decide) (fun c23 => ?_) (fun c23 => ?_)
    · have h8 : ¬ nG (h 1) = 6 := by intro q; rw [hI.nG.2, q] at c23; exact absurd c23 (by decide)
      have n8 := hI.nG.1
      refine g_aload_n dX3_guest_33 rfl ?_
      refine g_getR dX3_guest_34 fl_X3_12 rfl rfl ?_
      refine g_iload_n dX3_guest_37 rfl ?_
      refine g_callV1i (c_X0_addGuest inn1 hI.nG.2 (by omega)) mi_X0_addGuest mv_X0_addGuest ml_X3_85 dX3_guest_38 rfl rfl (by decide) (Nat.le_of_ble_eq_true rfl) (Nat.le_of_ble_eq_true rfl) ?_
      exact g_ireturn dX3_guest_41 (by simp_all [f_guest, oV, fvl_0, fvl_1, fvl_2, fvl_3, fvl_4, fvl_5, fvl_6, bI_0]) (by simp_all [f_guest, oC, bI_0, setg_id])
    · have h8 : nG (h 1) = 6 := by
        have n8 := hI.nG.1
        rcases Nat.lt_or_ge (nG (h 1)) 6 with q | q
        · exact absurd (by rw [hI.nG.2]; exact nI_lt (b := 6) q (by decide)) c23
        · omega
      refine g_aload_n dX3_guest_26 rfl ?_
      refine g_ldc dX3_guest_27 lc_X3_74 ?_
      refine g_callV1i (c_X3_found 1 (by decide) (by decide)) mi_X3_found mv_X3_found ml_X3_53 dX3_guest_29 rfl rfl (by decide) (Nat.le_of_ble_eq_true rfl) (Nat.le_of_ble_eq_true rfl) ?_
      exact g_ireturn dX3_guest_32 (by simp_all [f_guest, oV, fvl_0, fvl_1, fvl_2, fvl_3, fvl_4, fvl_5, fvl_6, bI_0]) (by simp_all [f_guest, oC, bI_0, setg_id])
  · refine g_aload_n dX3_guest_7 rfl ?_
    refine g_ldc dX3_guest_8 lc_X3_52 ?_
    refine g_callV1i (c_X3_found 0 (by decide) (by decide)) mi_X3_found mv_X3_found ml_X3_53 dX3_guest_10 rfl rfl (by decide) (Nat.le_of_ble_eq_true rfl) (Nat.le_of_ble_eq_true rfl) ?_
    exact g_ireturn dX3_guest_13 (by simp_all [f_guest, oV, fvl_0, fvl_1, fvl_2, fvl_3, fvl_4, fvl_5, fvl_6, bI_0]) (by simp_all [f_guest, oC, bI_0, setg_id])

set_option maxRecDepth 100000 in
set_option maxHeartbeats 4000000 in
theorem c_X3_of {X : Sc} {h : Hp} (hI : In (h 1)) {d k : Int32} : Ct X yX3_of cX3_of 3 (some .int) 2 [.ref 0, .int d, .int k] h (some (.int (oV (f_of (h 1) d k)))) (oC h (f_of (h 1) d k)) := by
  refine ⟨rfl, ?_⟩
  refine g_aload_n dX3_of_0 rfl ?_
  refine g_getR dX3_of_1 fl_X3_12 rfl rfl ?_
  refine g_iload_n dX3_of_4 rfl ?_
  refine g_callV1i (c_X0_isDish inn1) mi_X0_isDish mv_X0_isDish ml_X3_88 dX3_of_5 rfl rfl (by decide) (Nat.le_of_ble_eq_true rfl) (Nat.le_of_ble_eq_true rfl) ?_
  refine g_if_eq 20 dX3_of_8 (by decide) (fun c8 => ?_) (fun c8 => ?_)
  · refine g_aload_n dX3_of_20 rfl ?_
    refine g_ldc dX3_of_21 lc_X3_52 ?_
    refine g_callV1i (c_X3_found 0 (by decide) (by decide)) mi_X3_found mv_X3_found ml_X3_53 dX3_of_23 rfl rfl (by decide) (Nat.le_of_ble_eq_true rfl) (Nat.le_of_ble_eq_true rfl) ?_
    exact g_ireturn dX3_of_26 (by simp_all [f_of, oV, fvl_0, fvl_1, fvl_2, fvl_3, fvl_4, fvl_5, fvl_6, bI_0]) (by simp_all [f_of, oC, bI_0, setg_id])
  · refine g_iload_n dX3_of_11 rfl ?_
    refine g_iconst dX3_of_12 ic_0 ?_
    refine g_iconst dX3_of_13 ic_5 ?_
    refine g_callS3i (c_X3_within) mi_X3_within ms_X3_within ml_X3_48 dX3_of_14 (by decide) (Nat.le_of_ble_eq_true rfl) (Nat.le_of_ble_eq_true rfl) ?_
    refine g_if_ne 27 dX3_of_17 (by decide) (fun c17 => ?_) (fun c17 => ?_)
    · obtain ⟨j, lj, hj, tj, rfl⟩ := isD_of2 hI (nb0 c8)
      obtain ⟨i, hi, ti, rfl⟩ := inB_of 5 (by decide) (nb0 c17)
      refine g_aload_n dX3_of_27 rfl ?_
      refine g_getR dX3_of_28 fl_X3_12 rfl rfl ?_
      refine g_iload_n dX3_of_31 rfl ?_
      refine g_iload_n dX3_of_32 rfl ?_
      refine g_callV2i (c_X0_dishFact inn1 hj (by omega)) mi_X0_dishFact mv_X0_dishFact ml_X3_91 dX3_of_33 rfl rfl (by decide) (Nat.le_of_ble_eq_true rfl) (Nat.le_of_ble_eq_true rfl) ?_
      exact g_ireturn dX3_of_36 (by simp_all [f_of, oV, fvl_0, fvl_1, fvl_2, fvl_3, fvl_4, fvl_5, fvl_6, bI_0]) (by simp_all [f_of, oC, bI_0, setg_id])
    · refine g_aload_n dX3_of_20 rfl ?_
      refine g_ldc dX3_of_21 lc_X3_52 ?_
      refine g_callV1i (c_X3_found 0 (by decide) (by decide)) mi_X3_found mv_X3_found ml_X3_53 dX3_of_23 rfl rfl (by decide) (Nat.le_of_ble_eq_true rfl) (Nat.le_of_ble_eq_true rfl) ?_
      exact g_ireturn dX3_of_26 (by simp_all [f_of, oV, fvl_0, fvl_1, fvl_2, fvl_3, fvl_4, fvl_5, fvl_6, bI_0]) (by simp_all [f_of, oC, bI_0, setg_id])

set_option maxRecDepth 100000 in
set_option maxHeartbeats 4000000 in
theorem c_X3_change {X : Sc} {h : Hp} (hI : In (h 1)) {d k v : Int32} : Ct X yX3_change cX3_change 5 (some .int) 2 [.ref 0, .int d, .int k, .int v] h (some (.int (oV (f_change (h 1) d k v)))) (oC h (f_change (h 1) d k v)) := by
  refine ⟨rfl, ?_⟩
  refine g_aload_n dX3_change_0 rfl ?_
  refine g_getR dX3_change_1 fl_X3_12 rfl rfl ?_
  refine g_iload_n dX3_change_4 rfl ?_
  refine g_callV1i (c_X0_isDish inn1) mi_X0_isDish mv_X0_isDish ml_X3_88 dX3_change_5 rfl rfl (by decide) (Nat.le_of_ble_eq_true rfl) (Nat.le_of_ble_eq_true rfl) ?_
  refine g_if_eq 33 dX3_change_8 (by decide) (fun c8 => ?_) (fun c8 => ?_)
  · refine g_aload_n dX3_change_33 rfl ?_
    refine g_ldc dX3_change_34 lc_X3_52 ?_
    refine g_callV1i (c_X3_found 0 (by decide) (by decide)) mi_X3_found mv_X3_found ml_X3_53 dX3_change_36 rfl rfl (by decide) (Nat.le_of_ble_eq_true rfl) (Nat.le_of_ble_eq_true rfl) ?_
    exact g_ireturn dX3_change_39 (by simp_all [f_change, oV, fvl_0, fvl_1, fvl_2, fvl_3, fvl_4, fvl_5, fvl_6, bI_0]) (by simp_all [f_change, oC, bI_0, setg_id])
  · refine g_iload_n dX3_change_11 rfl ?_
    refine g_iconst dX3_change_12 ic_0 ?_
    refine g_iconst dX3_change_13 ic_5 ?_
    refine g_callS3i (c_X3_within) mi_X3_within ms_X3_within ml_X3_48 dX3_change_14 (by decide) (Nat.le_of_ble_eq_true rfl) (Nat.le_of_ble_eq_true rfl) ?_
    refine g_if_eq 33 dX3_change_17 (by decide) (fun c17 => ?_) (fun c17 => ?_)
    · refine g_aload_n dX3_change_33 rfl ?_
      refine g_ldc dX3_change_34 lc_X3_52 ?_
      refine g_callV1i (c_X3_found 0 (by decide) (by decide)) mi_X3_found mv_X3_found ml_X3_53 dX3_change_36 rfl rfl (by decide) (Nat.le_of_ble_eq_true rfl) (Nat.le_of_ble_eq_true rfl) ?_
      exact g_ireturn dX3_change_39 (by simp_all [f_change, oV, fvl_0, fvl_1, fvl_2, fvl_3, fvl_4, fvl_5, fvl_6, bI_0]) (by simp_all [f_change, oC, bI_0, setg_id])
    · obtain ⟨j, lj, hj, tj, rfl⟩ := isD_of2 hI (nb0 c8)
      obtain ⟨i, hi, ti, rfl⟩ := inB_of 5 (by decide) (nb0 c17)
      refine g_iload_n dX3_change_20 rfl ?_
      refine g_iconst dX3_change_21 ic_0 ?_
      refine g_gets (i := 101) dX3_change_22 ro1 fs_X3_95 ?_
      refine g_iload_n dX3_change_25 rfl ?_
      refine g_ildr (l0 := dshTops) i dX3_change_26 ro1 rfl (by show i < 6; omega) (by decide) ?_
      refine g_callS3i (c_X3_within) mi_X3_within ms_X3_within ml_X3_48 dX3_change_27 (by decide) (Nat.le_of_ble_eq_true rfl) (Nat.le_of_ble_eq_true rfl) ?_
      refine g_if_ne 40 dX3_change_30 (by decide) (fun c30 => ?_) (fun c30 => ?_)
      · refine g_aload_n dX3_change_40 rfl ?_
        refine g_getR dX3_change_41 fl_X3_12 rfl rfl ?_
        refine g_iload_n dX3_change_44 rfl ?_
        refine g_iload_n dX3_change_45 rfl ?_
        refine g_callV2i (c_X0_dishFact inn1 hj (by omega)) mi_X0_dishFact mv_X0_dishFact ml_X3_91 dX3_change_46 rfl rfl (by decide) (Nat.le_of_ble_eq_true rfl) (Nat.le_of_ble_eq_true rfl) ?_
        refine g_istore dX3_change_49 (by decide) rfl ?_
        refine g_aload_n dX3_change_51 rfl ?_
        refine g_getR dX3_change_52 fl_X3_12 rfl rfl ?_
        refine g_iload_n dX3_change_55 rfl ?_
        refine g_iload_n dX3_change_56 rfl ?_
        refine g_iload_n dX3_change_57 rfl ?_
        refine g_callV3v (c_X0_putDishFact inn1 hj (by omega)) mi_X0_putDishFact mv_X0_putDishFact ml_X3_98 dX3_change_58 rfl rfl (by decide) (Nat.le_of_ble_eq_true rfl) (Nat.le_of_ble_eq_true rfl) ?_
        refine g_iload dX3_change_61 rfl ?_
        exact g_ireturn dX3_change_63 (by simp_all [f_change, oV, fvl_0, fvl_1, fvl_2, fvl_3, fvl_4, fvl_5, fvl_6, bI_0]) (by simp_all [f_change, oC, bI_0, setg_id])
      · refine g_aload_n dX3_change_33 rfl ?_
        refine g_ldc dX3_change_34 lc_X3_52 ?_
        refine g_callV1i (c_X3_found 0 (by decide) (by decide)) mi_X3_found mv_X3_found ml_X3_53 dX3_change_36 rfl rfl (by decide) (Nat.le_of_ble_eq_true rfl) (Nat.le_of_ble_eq_true rfl) ?_
        exact g_ireturn dX3_change_39 (by simp_all [f_change, oV, fvl_0, fvl_1, fvl_2, fvl_3, fvl_4, fvl_5, fvl_6, bI_0]) (by simp_all [f_change, oC, bI_0, setg_id])

set_option maxRecDepth 100000 in
set_option maxHeartbeats 4000000 in
theorem c_X3_ofGuest {X : Sc} {h : Hp} (hI : In (h 1)) {d k : Int32} : Ct X yX3_ofGuest cX3_ofGuest 3 (some .int) 2 [.ref 0, .int d, .int k] h (some (.int (oV (f_ofGuest (h 1) d k)))) (oC h (f_ofGuest (h 1) d k)) := by
  refine ⟨rfl, ?_⟩
  refine g_aload_n dX3_ofGuest_0 rfl ?_
  refine g_getR dX3_ofGuest_1 fl_X3_12 rfl rfl ?_
  refine g_iload_n dX3_ofGuest_4 rfl ?_
  refine g_callV1i (c_X0_isGuest inn1) mi_X0_isGuest mv_X0_isGuest ml_X3_101 dX3_ofGuest_5 rfl rfl (by decide) (Nat.le_of_ble_eq_true rfl) (Nat.le_of_ble_eq_true rfl) ?_
  refine g_if_eq 18 dX3_ofGuest_8 (by decide) (fun c8 => ?_) (fun c8 => ?_)
  · refine g_aload_n dX3_ofGuest_18 rfl ?_
    refine g_ldc dX3_ofGuest_19 lc_X3_52 ?_
    refine g_callV1i (c_X3_found 0 (by decide) (by decide)) mi_X3_found mv_X3_found ml_X3_53 dX3_ofGuest_21 rfl rfl (by decide) (Nat.le_of_ble_eq_true rfl) (Nat.le_of_ble_eq_true rfl) ?_
    exact g_ireturn dX3_ofGuest_24 (by simp_all [f_ofGuest, oV, fvl_0, fvl_1, fvl_2, fvl_3, fvl_4, fvl_5, fvl_6, bI_0]) (by simp_all [f_ofGuest, oC, bI_0, setg_id])
  · refine g_iload_n dX3_ofGuest_11 rfl ?_
    refine g_callS1i (c_X3_isGuestFact) mi_X3_isGuestFact ms_X3_isGuestFact ml_X3_104 dX3_ofGuest_12 (by decide) (Nat.le_of_ble_eq_true rfl) (Nat.le_of_ble_eq_true rfl) ?_
    refine g_if_ne 25 dX3_ofGuest_15 (by decide) (fun c15 => ?_) (fun c15 => ?_)
    · obtain ⟨j, lj, hj, tj, rfl⟩ := isG_of2 hI (nb0 c8)
      obtain ⟨i, hi, ti, rfl⟩ := inB_of 4 (by decide) (nb0 c15)
      refine g_aload_n dX3_ofGuest_25 rfl ?_
      refine g_getR dX3_ofGuest_26 fl_X3_12 rfl rfl ?_
      refine g_iload_n dX3_ofGuest_29 rfl ?_
      refine g_iload_n dX3_ofGuest_30 rfl ?_
      refine g_callV2i (c_X0_guestFact inn1 hj (by omega)) mi_X0_guestFact mv_X0_guestFact ml_X3_107 dX3_ofGuest_31 rfl rfl (by decide) (Nat.le_of_ble_eq_true rfl) (Nat.le_of_ble_eq_true rfl) ?_
      exact g_ireturn dX3_ofGuest_34 (by simp_all [f_ofGuest, oV, fvl_0, fvl_1, fvl_2, fvl_3, fvl_4, fvl_5, fvl_6, bI_0]) (by simp_all [f_ofGuest, oC, bI_0, setg_id])
    · refine g_aload_n dX3_ofGuest_18 rfl ?_
      refine g_ldc dX3_ofGuest_19 lc_X3_52 ?_
      refine g_callV1i (c_X3_found 0 (by decide) (by decide)) mi_X3_found mv_X3_found ml_X3_53 dX3_ofGuest_21 rfl rfl (by decide) (Nat.le_of_ble_eq_true rfl) (Nat.le_of_ble_eq_true rfl) ?_
      exact g_ireturn dX3_ofGuest_24 (by simp_all [f_ofGuest, oV, fvl_0, fvl_1, fvl_2, fvl_3, fvl_4, fvl_5, fvl_6, bI_0]) (by simp_all [f_ofGuest, oC, bI_0, setg_id])

set_option maxRecDepth 100000 in
set_option maxHeartbeats 4000000 in
theorem c_X3_seat {X : Sc} {h : Hp} (hI : In (h 1)) {d k v : Int32} : Ct X yX3_seat cX3_seat 5 (some .int) 2 [.ref 0, .int d, .int k, .int v] h (some (.int (oV (f_seat (h 1) d k v)))) (oC h (f_seat (h 1) d k v)) := by
  refine ⟨rfl, ?_⟩
  refine g_aload_n dX3_seat_0 rfl ?_
  refine g_getR dX3_seat_1 fl_X3_12 rfl rfl ?_
  refine g_iload_n dX3_seat_4 rfl ?_
  refine g_callV1i (c_X0_isGuest inn1) mi_X0_isGuest mv_X0_isGuest ml_X3_101 dX3_seat_5 rfl rfl (by decide) (Nat.le_of_ble_eq_true rfl) (Nat.le_of_ble_eq_true rfl) ?_
  refine g_if_eq 31 dX3_seat_8 (by decide) (fun c8 => ?_) (fun c8 => ?_)
  · refine g_aload_n dX3_seat_31 rfl ?_
    refine g_ldc dX3_seat_32 lc_X3_52 ?_
    refine g_callV1i (c_X3_found 0 (by decide) (by decide)) mi_X3_found mv_X3_found ml_X3_53 dX3_seat_34 rfl rfl (by decide) (Nat.le_of_ble_eq_true rfl) (Nat.le_of_ble_eq_true rfl) ?_
    exact g_ireturn dX3_seat_37 (by simp_all [f_seat, oV, fvl_0, fvl_1, fvl_2, fvl_3, fvl_4, fvl_5, fvl_6, bI_0]) (by simp_all [f_seat, oC, bI_0, setg_id])
  · refine g_iload_n dX3_seat_11 rfl ?_
    refine g_callS1i (c_X3_isGuestFact) mi_X3_isGuestFact ms_X3_isGuestFact ml_X3_104 dX3_seat_12 (by decide) (Nat.le_of_ble_eq_true rfl) (Nat.le_of_ble_eq_true rfl) ?_
    refine g_if_eq 31 dX3_seat_15 (by decide) (fun c15 => ?_) (fun c15 => ?_)
    · refine g_aload_n dX3_seat_31 rfl ?_
      refine g_ldc dX3_seat_32 lc_X3_52 ?_
      refine g_callV1i (c_X3_found 0 (by decide) (by decide)) mi_X3_found mv_X3_found ml_X3_53 dX3_seat_34 rfl rfl (by decide) (Nat.le_of_ble_eq_true rfl) (Nat.le_of_ble_eq_true rfl) ?_
      exact g_ireturn dX3_seat_37 (by simp_all [f_seat, oV, fvl_0, fvl_1, fvl_2, fvl_3, fvl_4, fvl_5, fvl_6, bI_0]) (by simp_all [f_seat, oC, bI_0, setg_id])
    · obtain ⟨j, lj, hj, tj, rfl⟩ := isG_of2 hI (nb0 c8)
      obtain ⟨i, hi, ti, rfl⟩ := inB_of 4 (by decide) (nb0 c15)
      refine g_iload_n dX3_seat_18 rfl ?_
      refine g_iconst dX3_seat_19 ic_0 ?_
      refine g_gets (i := 102) dX3_seat_20 ro2 fs_X3_110 ?_
      refine g_iload_n dX3_seat_23 rfl ?_
      refine g_ildr (l0 := gstTops) i dX3_seat_24 ro2 rfl (by show i < 5; omega) (by decide) ?_
      refine g_callS3i (c_X3_within) mi_X3_within ms_X3_within ml_X3_48 dX3_seat_25 (by decide) (Nat.le_of_ble_eq_true rfl) (Nat.le_of_ble_eq_true rfl) ?_
      refine g_if_ne 38 dX3_seat_28 (by decide) (fun c28 => ?_) (fun c28 => ?_)
      · refine g_aload_n dX3_seat_38 rfl ?_
        refine g_getR dX3_seat_39 fl_X3_12 rfl rfl ?_
        refine g_iload_n dX3_seat_42 rfl ?_
        refine g_iload_n dX3_seat_43 rfl ?_
        refine g_callV2i (c_X0_guestFact inn1 hj (by omega)) mi_X0_guestFact mv_X0_guestFact ml_X3_107 dX3_seat_44 rfl rfl (by decide) (Nat.le_of_ble_eq_true rfl) (Nat.le_of_ble_eq_true rfl) ?_
        refine g_istore dX3_seat_47 (by decide) rfl ?_
        refine g_aload_n dX3_seat_49 rfl ?_
        refine g_getR dX3_seat_50 fl_X3_12 rfl rfl ?_
        refine g_iload_n dX3_seat_53 rfl ?_
        refine g_iload_n dX3_seat_54 rfl ?_
        refine g_iload_n dX3_seat_55 rfl ?_
        refine g_callV3v (c_X0_putGuestFact inn1 hj (by omega)) mi_X0_putGuestFact mv_X0_putGuestFact ml_X3_113 dX3_seat_56 rfl rfl (by decide) (Nat.le_of_ble_eq_true rfl) (Nat.le_of_ble_eq_true rfl) ?_
        refine g_iload dX3_seat_59 rfl ?_
        exact g_ireturn dX3_seat_61 (by simp_all [f_seat, oV, fvl_0, fvl_1, fvl_2, fvl_3, fvl_4, fvl_5, fvl_6, bI_0]) (by simp_all [f_seat, oC, bI_0, setg_id])
      · refine g_aload_n dX3_seat_31 rfl ?_
        refine g_ldc dX3_seat_32 lc_X3_52 ?_
        refine g_callV1i (c_X3_found 0 (by decide) (by decide)) mi_X3_found mv_X3_found ml_X3_53 dX3_seat_34 rfl rfl (by decide) (Nat.le_of_ble_eq_true rfl) (Nat.le_of_ble_eq_true rfl) ?_
        exact g_ireturn dX3_seat_37 (by simp_all [f_seat, oV, fvl_0, fvl_1, fvl_2, fvl_3, fvl_4, fvl_5, fvl_6, bI_0]) (by simp_all [f_seat, oC, bI_0, setg_id])

theorem wld_in {x : Int32} (h0 : ¬ x = 0) (h1 : ¬ x = 1) (h2 : ¬ x = 2) (h3 : ¬ bI (inB x 0 3) = 0) : x = 3 := by
  obtain ⟨j, hj, -, rfl⟩ := inB_of 3 (by decide) (nb0 h3)
  match j, hj with
  | 0, _ => exact absurd rfl h0
  | 1, _ => exact absurd rfl h1
  | 2, _ => exact absurd rfl h2
  | 3, _ => rfl
  | n + 4, h => exact absurd h (by omega)
theorem wld_out {x : Int32} (h3 : bI (inB x 0 3) = 0) : ¬ x = 0 ∧ ¬ x = 1 ∧ ¬ x = 2 ∧ ¬ x = 3 := by
  refine ⟨?_, ?_, ?_, ?_⟩ <;> (rintro rfl; exact absurd h3 (by decide))
set_option maxRecDepth 100000 in
set_option maxHeartbeats 4000000 in
theorem c_X3_would {X : Sc} {h : Hp} (hI : In (h 1)) {g d k : Int32} : Ct X yX3_would cX3_would 5 (some .int) 2 [.ref 0, .int g, .int d, .int k] h (some (.int (oV (f_would (h 1) g d k)))) (oC h (f_would (h 1) g d k)) := by
  refine ⟨rfl, ?_⟩
  refine g_aload_n dX3_would_0 rfl ?_
  refine g_getR dX3_would_1 fl_X3_12 rfl rfl ?_
  refine g_iload_n dX3_would_4 rfl ?_
  refine g_callV1i (c_X0_isGuest inn1) mi_X0_isGuest mv_X0_isGuest ml_X3_101 dX3_would_5 rfl rfl (by decide) (Nat.le_of_ble_eq_true rfl) (Nat.le_of_ble_eq_true rfl) ?_
  refine g_if_eq 31 dX3_would_8 (by decide) (fun c8 => ?_) (fun c8 => ?_)
  · refine g_aload_n dX3_would_31 rfl ?_
    refine g_ldc dX3_would_32 lc_X3_52 ?_
    refine g_callV1i (c_X3_found 0 (by decide) (by decide)) mi_X3_found mv_X3_found ml_X3_53 dX3_would_34 rfl rfl (by decide) (Nat.le_of_ble_eq_true rfl) (Nat.le_of_ble_eq_true rfl) ?_
    exact g_ireturn dX3_would_37 (by first | (have q := wld_out c28; simp_all [f_would, oV, fvl_0, bI_0]; done) | (simp_all [f_would, oV, fvl_0, bI_0]; done)) (by first | (have q := wld_out c28; simp_all [f_would, oC, bI_0]; done) | (simp_all [f_would, oC, bI_0]; done))
  · refine g_aload_n dX3_would_11 rfl ?_
    refine g_getR dX3_would_12 fl_X3_12 rfl rfl ?_
    refine g_iload_n dX3_would_15 rfl ?_
    refine g_callV1i (c_X0_isDish inn1) mi_X0_isDish mv_X0_isDish ml_X3_88 dX3_would_16 rfl rfl (by decide) (Nat.le_of_ble_eq_true rfl) (Nat.le_of_ble_eq_true rfl) ?_
    refine g_if_eq 31 dX3_would_19 (by decide) (fun c19 => ?_) (fun c19 => ?_)
    · refine g_aload_n dX3_would_31 rfl ?_
      refine g_ldc dX3_would_32 lc_X3_52 ?_
      refine g_callV1i (c_X3_found 0 (by decide) (by decide)) mi_X3_found mv_X3_found ml_X3_53 dX3_would_34 rfl rfl (by decide) (Nat.le_of_ble_eq_true rfl) (Nat.le_of_ble_eq_true rfl) ?_
      exact g_ireturn dX3_would_37 (by first | (have q := wld_out c28; simp_all [f_would, oV, fvl_0, bI_0]; done) | (simp_all [f_would, oV, fvl_0, bI_0]; done)) (by first | (have q := wld_out c28; simp_all [f_would, oC, bI_0]; done) | (simp_all [f_would, oC, bI_0]; done))
    · refine g_iload_n dX3_would_22 rfl ?_
      refine g_iconst dX3_would_23 ic_0 ?_
      refine g_iconst dX3_would_24 ic_3 ?_
      refine g_callS3i (c_X3_within) mi_X3_within ms_X3_within ml_X3_48 dX3_would_25 (by decide) (Nat.le_of_ble_eq_true rfl) (Nat.le_of_ble_eq_true rfl) ?_
      refine g_if_ne 38 dX3_would_28 (by decide) (fun c28 => ?_) (fun c28 => ?_)
      · obtain ⟨e, le, he, te, rfl⟩ := isG_of2 hI (nb0 c8)
        obtain ⟨j, lj, hj, tj, rfl⟩ := isD_of2 hI (nb0 c19)
        refine g_aload_n dX3_would_38 rfl ?_
        refine g_getR dX3_would_39 fl_X3_12 rfl rfl ?_
        refine g_iload_n dX3_would_42 rfl ?_
        refine g_iload_n dX3_would_43 rfl ?_
        refine g_callV2i (c_X0_takesLeft inn1 hI he hj) mi_X0_takesLeft mv_X0_takesLeft ml_X3_116 dX3_would_44 rfl rfl (by decide) (Nat.le_of_ble_eq_true rfl) (Nat.le_of_ble_eq_true rfl) ?_
        refine g_istore dX3_would_47 (by decide) rfl ?_
        refine g_iload_n dX3_would_49 rfl ?_
        refine g_tswc (0) (0) (26) 76 dX3_would_50 (by decide) (by decide) (by decide) rfl (by decide) (fun c50 => ?_) (fun c50_0 n50_0 => ?_)
        · refine g_iload dX3_would_76 rfl ?_
          refine g_if_eq 85 dX3_would_78 (by decide) (fun c78 => ?_) (fun c78 => ?_)
          · refine g_iconst dX3_would_85 ic_0 ?_
            exact g_ireturn dX3_would_86 (by first | (simp_all [f_would, oV, bI_0]; done) | (simp_all [f_would, oV, bI]; done)) (by simp_all [f_would, oC, setg_id, bI_0])
          · refine g_iconst dX3_would_81 ic_1 ?_
            refine g_goto 86 dX3_would_82 (by decide) ?_
            exact g_ireturn dX3_would_86 (by first | (simp_all [f_would, oV, bI_0]; done) | (simp_all [f_would, oV, bI]; done)) (by simp_all [f_would, oC, setg_id, bI_0])
        refine g_tswc (1) (1) (37) 87 dX3_would_50 (by decide) (by decide) (by decide) rfl (by decide) (fun c50 => ?_) (fun c50_1 n50_1 => ?_)
        · refine g_aload_n dX3_would_87 rfl ?_
          refine g_getR dX3_would_88 fl_X3_12 rfl rfl ?_
          refine g_iload_n dX3_would_91 rfl ?_
          refine g_iload_n dX3_would_92 rfl ?_
          refine g_iload dX3_would_93 rfl ?_
          refine g_callV3i (c_X0_costOf inn1 hI he hj) mi_X0_costOf mv_X0_costOf ml_X3_120 dX3_would_95 rfl rfl (by decide) (Nat.le_of_ble_eq_true rfl) (Nat.le_of_ble_eq_true rfl) ?_
          exact g_ireturn dX3_would_98 (by first | (simp_all [f_would, oV, bI_0]; done) | (simp_all [f_would, oV, bI]; done)) (by simp_all [f_would, oC, setg_id, bI_0])
        refine g_tswc (2) (2) (49) 99 dX3_would_50 (by decide) (by decide) (by decide) rfl (by decide) (fun c50 => ?_) (fun c50_2 n50_2 => ?_)
        · refine g_aload_n dX3_would_99 rfl ?_
          refine g_getR dX3_would_100 fl_X3_12 rfl rfl ?_
          refine g_iload_n dX3_would_103 rfl ?_
          refine g_iconst dX3_would_104 ic_0 ?_
          refine g_callV2i (c_X0_dishFact (w := 0) inn1 hj (by decide)) mi_X0_dishFact mv_X0_dishFact ml_X3_91 dX3_would_105 rfl rfl (by decide) (Nat.le_of_ble_eq_true rfl) (Nat.le_of_ble_eq_true rfl) ?_
          refine g_iload dX3_would_108 rfl ?_
          refine g_callS2i (c_X0_bendOf) mi_X0_bendOf ms_X0_bendOf ml_X3_124 dX3_would_110 (by decide) (Nat.le_of_ble_eq_true rfl) (Nat.le_of_ble_eq_true rfl) ?_
          exact g_ireturn dX3_would_113 (by first | (simp_all [f_would, oV, bI_0]; done) | (simp_all [f_would, oV, bI]; done)) (by simp_all [f_would, oC, setg_id, bI_0])
        refine g_tswd 114 dX3_would_50 (by omega) (by decide) ?_
        have k3 := wld_in c50_0 c50_1 c50_2 c28
        subst k3
        refine g_aload_n dX3_would_114 rfl ?_
        refine g_getR dX3_would_115 fl_X3_12 rfl rfl ?_
        refine g_iload_n dX3_would_118 rfl ?_
        refine g_iload dX3_would_119 rfl ?_
        refine g_callV2i (c_X0_townOf inn1 hj) mi_X0_townOf mv_X0_townOf ml_X3_128 dX3_would_121 rfl rfl (by decide) (Nat.le_of_ble_eq_true rfl) (Nat.le_of_ble_eq_true rfl) ?_
        exact g_ireturn dX3_would_124 (by first | (simp_all [f_would, oV, bI_0]; done) | (simp_all [f_would, oV, bI]; done)) (by simp_all [f_would, oC, setg_id, bI_0])
      · refine g_aload_n dX3_would_31 rfl ?_
        refine g_ldc dX3_would_32 lc_X3_52 ?_
        refine g_callV1i (c_X3_found 0 (by decide) (by decide)) mi_X3_found mv_X3_found ml_X3_53 dX3_would_34 rfl rfl (by decide) (Nat.le_of_ble_eq_true rfl) (Nat.le_of_ble_eq_true rfl) ?_
        exact g_ireturn dX3_would_37 (by first | (have q := wld_out c28; simp_all [f_would, oV, fvl_0, bI_0]; done) | (simp_all [f_would, oV, fvl_0, bI_0]; done)) (by first | (have q := wld_out c28; simp_all [f_would, oC, bI_0]; done) | (simp_all [f_would, oC, bI_0]; done))

set_option maxRecDepth 100000 in
set_option maxHeartbeats 4000000 in
theorem c_X3_eat {X : Sc} {h : Hp} (hI : In (h 1)) {g d : Int32} : Ct X yX3_eat cX3_eat 3 (some .int) 3 [.ref 0, .int g, .int d] h (some (.int (oV (f_eat (h 1) g d)))) (oC h (f_eat (h 1) g d)) := by
  refine ⟨rfl, ?_⟩
  refine g_aload_n dX3_eat_0 rfl ?_
  refine g_getR dX3_eat_1 fl_X3_12 rfl rfl ?_
  refine g_iload_n dX3_eat_4 rfl ?_
  refine g_callV1i (c_X0_isGuest inn1) mi_X0_isGuest mv_X0_isGuest ml_X3_101 dX3_eat_5 rfl rfl (by decide) (Nat.le_of_ble_eq_true rfl) (Nat.le_of_ble_eq_true rfl) ?_
  refine g_if_eq 22 dX3_eat_8 (by decide) (fun c8 => ?_) (fun c8 => ?_)
  · refine g_aload_n dX3_eat_22 rfl ?_
    refine g_ldc dX3_eat_23 lc_X3_52 ?_
    refine g_callV1i (c_X3_found 0 (by decide) (by decide)) mi_X3_found mv_X3_found ml_X3_53 dX3_eat_25 rfl rfl (by decide) (Nat.le_of_ble_eq_true rfl) (Nat.le_of_ble_eq_true rfl) ?_
    exact g_ireturn dX3_eat_28 (by simp_all [f_eat, oV, fvl_0, fvl_1, fvl_2, fvl_3, fvl_4, fvl_5, fvl_6, bI_0]) (by simp_all [f_eat, oC, bI_0, setg_id])
  · refine g_aload_n dX3_eat_11 rfl ?_
    refine g_getR dX3_eat_12 fl_X3_12 rfl rfl ?_
    refine g_iload_n dX3_eat_15 rfl ?_
    refine g_callV1i (c_X0_isDish inn1) mi_X0_isDish mv_X0_isDish ml_X3_88 dX3_eat_16 rfl rfl (by decide) (Nat.le_of_ble_eq_true rfl) (Nat.le_of_ble_eq_true rfl) ?_
    refine g_if_ne 29 dX3_eat_19 (by decide) (fun c19 => ?_) (fun c19 => ?_)
    · obtain ⟨e, le, he, te, rfl⟩ := isG_of2 hI (nb0 c8)
      obtain ⟨j, lj, hj, tj, rfl⟩ := isD_of2 hI (nb0 c19)
      refine g_aload_n dX3_eat_29 rfl ?_
      refine g_getR dX3_eat_30 fl_X3_12 rfl rfl ?_
      refine g_iload_n dX3_eat_33 rfl ?_
      refine g_callV1i (c_X0_isOff inn1 hj) mi_X0_isOff mv_X0_isOff ml_X3_131 dX3_eat_34 rfl rfl (by decide) (Nat.le_of_ble_eq_true rfl) (Nat.le_of_ble_eq_true rfl) ?_
      refine g_if_eq 47 dX3_eat_37 (by decide) (fun c37 => ?_) (fun c37 => ?_)
      · refine g_aload_n dX3_eat_47 rfl ?_
        refine g_getR dX3_eat_48 fl_X3_12 rfl rfl ?_
        refine g_iload_n dX3_eat_51 rfl ?_
        refine g_iload_n dX3_eat_52 rfl ?_
        refine g_callV2v (c_X0_haveMeal inn1 hI he hj) mi_X0_haveMeal mv_X0_haveMeal ml_X3_135 dX3_eat_53 rfl rfl (by decide) (Nat.le_of_ble_eq_true rfl) (Nat.le_of_ble_eq_true rfl) ?_
        refine g_aload_n dX3_eat_56 rfl ?_
        refine g_getR dX3_eat_57 fl_X3_12 rfl rfl ?_
        refine g_iload_n dX3_eat_60 rfl ?_
        refine g_iconst dX3_eat_61 ic_1 ?_
        refine g_callV2i (c_X0_guestFact (w := 1) inn1 he (by decide)) mi_X0_guestFact mv_X0_guestFact ml_X3_107 dX3_eat_62 rfl rfl (by decide) (Nat.le_of_ble_eq_true rfl) (Nat.le_of_ble_eq_true rfl) ?_
        refine g_st (st2 := [.int (twn (h 1) j (lft (h 1) e j))]) (by rw [setg_s, twn_eat hj]) ?_
        exact g_ireturn dX3_eat_65 (by simp_all [f_eat, oV, fvl_0, fvl_1, fvl_2, fvl_3, fvl_4, fvl_5, fvl_6, bI_0]) (by simp_all [f_eat, oC, bI_0, setg_id])
      · refine g_aload_n dX3_eat_40 rfl ?_
        refine g_ldc dX3_eat_41 lc_X3_134 ?_
        refine g_callV1i (c_X3_found 4 (by decide) (by decide)) mi_X3_found mv_X3_found ml_X3_53 dX3_eat_43 rfl rfl (by decide) (Nat.le_of_ble_eq_true rfl) (Nat.le_of_ble_eq_true rfl) ?_
        exact g_ireturn dX3_eat_46 (by simp_all [f_eat, oV, fvl_0, fvl_1, fvl_2, fvl_3, fvl_4, fvl_5, fvl_6, bI_0]) (by simp_all [f_eat, oC, bI_0, setg_id])
    · refine g_aload_n dX3_eat_22 rfl ?_
      refine g_ldc dX3_eat_23 lc_X3_52 ?_
      refine g_callV1i (c_X3_found 0 (by decide) (by decide)) mi_X3_found mv_X3_found ml_X3_53 dX3_eat_25 rfl rfl (by decide) (Nat.le_of_ble_eq_true rfl) (Nat.le_of_ble_eq_true rfl) ?_
      exact g_ireturn dX3_eat_28 (by simp_all [f_eat, oV, fvl_0, fvl_1, fvl_2, fvl_3, fvl_4, fvl_5, fvl_6, bI_0]) (by simp_all [f_eat, oC, bI_0, setg_id])

set_option maxRecDepth 100000 in
set_option maxHeartbeats 4000000 in
theorem c_X3_go {X : Sc} {h : Hp} (hI : In (h 1)) {n : Int32} : Ct X yX3_go cX3_go 2 (some .int) 5 [.ref 0, .int n] h (some (.int (oV (f_go (h 1) n)))) (oC h (f_go (h 1) n)) := by
  refine ⟨rfl, ?_⟩
  refine g_iload_n dX3_go_0 rfl ?_
  refine g_iconst dX3_go_1 ic_1 ?_
  refine g_bipush dX3_go_2 bp_60 ?_
  refine g_callS3i (c_X3_within) mi_X3_within ms_X3_within ml_X3_48 dX3_go_4 (by decide) (Nat.le_of_ble_eq_true rfl) (Nat.le_of_ble_eq_true rfl) ?_
  refine g_if_ne 17 dX3_go_7 (by decide) (fun c7 => ?_) (fun c7 => ?_)
  · obtain ⟨j, l1, hj, tj, rfl⟩ := inB_of1 60 (by decide) (nb0 c7)
    refine g_aload_n dX3_go_17 rfl ?_
    refine g_getR dX3_go_18 fl_X3_12 rfl rfl ?_
    refine g_getI dX3_go_21 fl_X3_139 rfl rfl ?_
    refine g_iload_n dX3_go_24 rfl ?_
    refine g_iadd dX3_go_25 ?_
    refine g_ldc dX3_go_26 lc_X3_142 ?_
    refine g_icmp_le 38 dX3_go_28 (by decide) (fun c28 => ?_) (fun c28 => ?_)
    · refine g_aload_n dX3_go_38 rfl ?_
      refine g_getR dX3_go_39 fl_X3_12 rfl rfl ?_
      refine g_iload_n dX3_go_42 rfl ?_
      refine g_callV1v (c_X0_passDays inn1 hI (by omega)) mi_X0_passDays mv_X0_passDays ml_X3_143 dX3_go_43 rfl rfl (by decide) (Nat.le_of_ble_eq_true rfl) (Nat.le_of_ble_eq_true rfl) ?_
      refine g_aload_n dX3_go_46 rfl ?_
      refine g_getR dX3_go_47 fl_X3_12 rfl rfl ?_
      refine g_callV0i (c_X0_billSum inn1 (by rw [setg_s]; exact hI.days _)) mi_X0_billSum mv_X0_billSum ml_X3_147 dX3_go_50 rfl rfl (by decide) (Nat.le_of_ble_eq_true rfl) (Nat.le_of_ble_eq_true rfl) ?_
      exact g_ireturn dX3_go_53 (by simp_all [f_go, oV, fvl_0, fvl_4, bI_0, setg_s]) (by simp_all [f_go, oC, bI_0, setg_id])
    · refine g_aload_n dX3_go_31 rfl ?_
      refine g_ldc dX3_go_32 lc_X3_134 ?_
      refine g_callV1i (c_X3_found 4 (by decide) (by decide)) mi_X3_found mv_X3_found ml_X3_53 dX3_go_34 rfl rfl (by decide) (Nat.le_of_ble_eq_true rfl) (Nat.le_of_ble_eq_true rfl) ?_
      exact g_ireturn dX3_go_37 (by rw [f_go, if_pos (nb0 c7), if_neg c28]; rfl) (by rw [f_go, if_pos (nb0 c7), if_neg c28]; rfl)
  · refine g_aload_n dX3_go_10 rfl ?_
    refine g_ldc dX3_go_11 lc_X3_52 ?_
    refine g_callV1i (c_X3_found 0 (by decide) (by decide)) mi_X3_found mv_X3_found ml_X3_53 dX3_go_13 rfl rfl (by decide) (Nat.le_of_ble_eq_true rfl) (Nat.le_of_ble_eq_true rfl) ?_
    exact g_ireturn dX3_go_16 (by simp_all [f_go, oV, fvl_0, fvl_4, bI_0, setg_s]) (by simp_all [f_go, oC, bI_0, setg_id])

set_option maxRecDepth 100000 in
set_option maxHeartbeats 4000000 in
theorem c_X3_now {X : Sc} {h : Hp} (hI : In (h 1)) {k : Int32} : Ct X yX3_now cX3_now 2 (some .int) 3 [.ref 0, .int k] h (some (.int (oV (f_now (h 1) k)))) (oC h (f_now (h 1) k)) := by
  refine ⟨rfl, ?_⟩
  refine g_iload_n dX3_now_0 rfl ?_
  refine g_tswc (0) (0) (47) 48 dX3_now_1 (by decide) (by decide) (by decide) rfl (by decide) (fun c1 => ?_) (fun c1_0 n1_0 => ?_)
  · refine g_aload_n dX3_now_48 rfl ?_
    refine g_getR dX3_now_49 fl_X3_12 rfl rfl ?_
    refine g_getI dX3_now_52 fl_X3_139 rfl rfl ?_
    exact g_ireturn dX3_now_55 (by simp_all [f_now, oV, fvl_0, fvl_1, fvl_2, fvl_3, fvl_4, fvl_5, fvl_6, bI_0]) (by simp_all [f_now, oC, bI_0, setg_id])
  refine g_tswc (1) (1) (55) 56 dX3_now_1 (by decide) (by decide) (by decide) rfl (by decide) (fun c1 => ?_) (fun c1_1 n1_1 => ?_)
  · refine g_aload_n dX3_now_56 rfl ?_
    refine g_getR dX3_now_57 fl_X3_12 rfl rfl ?_
    refine g_callV0i (c_X0_billSum inn1 hI) mi_X0_billSum mv_X0_billSum ml_X3_147 dX3_now_60 rfl rfl (by decide) (Nat.le_of_ble_eq_true rfl) (Nat.le_of_ble_eq_true rfl) ?_
    exact g_ireturn dX3_now_63 (by simp_all [f_now, oV, fvl_0, fvl_1, fvl_2, fvl_3, fvl_4, fvl_5, fvl_6, bI_0]) (by simp_all [f_now, oC, bI_0, setg_id])
  refine g_tswc (2) (2) (63) 64 dX3_now_1 (by decide) (by decide) (by decide) rfl (by decide) (fun c1 => ?_) (fun c1_2 n1_2 => ?_)
  · refine g_aload_n dX3_now_64 rfl ?_
    refine g_getR dX3_now_65 fl_X3_12 rfl rfl ?_
    refine g_callV0i (c_X0_townsAimedAt inn1 hI) mi_X0_townsAimedAt mv_X0_townsAimedAt ml_X3_151 dX3_now_68 rfl rfl (by decide) (Nat.le_of_ble_eq_true rfl) (Nat.le_of_ble_eq_true rfl) ?_
    exact g_ireturn dX3_now_71 (by simp_all [f_now, oV, fvl_0, fvl_1, fvl_2, fvl_3, fvl_4, fvl_5, fvl_6, bI_0]) (by simp_all [f_now, oC, bI_0, setg_id])
  refine g_tswc (3) (3) (71) 72 dX3_now_1 (by decide) (by decide) (by decide) rfl (by decide) (fun c1 => ?_) (fun c1_3 n1_3 => ?_)
  · refine g_aload_n dX3_now_72 rfl ?_
    refine g_getR dX3_now_73 fl_X3_12 rfl rfl ?_
    refine g_callV0i (c_X0_townsBeenIn inn1 hI) mi_X0_townsBeenIn mv_X0_townsBeenIn ml_X3_154 dX3_now_76 rfl rfl (by decide) (Nat.le_of_ble_eq_true rfl) (Nat.le_of_ble_eq_true rfl) ?_
    exact g_ireturn dX3_now_79 (by simp_all [f_now, oV, fvl_0, fvl_1, fvl_2, fvl_3, fvl_4, fvl_5, fvl_6, bI_0]) (by simp_all [f_now, oC, bI_0, setg_id])
  refine g_tswc (4) (4) (79) 80 dX3_now_1 (by decide) (by decide) (by decide) rfl (by decide) (fun c1 => ?_) (fun c1_4 n1_4 => ?_)
  · refine g_aload_n dX3_now_80 rfl ?_
    refine g_getR dX3_now_81 fl_X3_12 rfl rfl ?_
    refine g_callV0i (c_X0_servedSum inn1 hI) mi_X0_servedSum mv_X0_servedSum ml_X3_157 dX3_now_84 rfl rfl (by decide) (Nat.le_of_ble_eq_true rfl) (Nat.le_of_ble_eq_true rfl) ?_
    exact g_ireturn dX3_now_87 (by simp_all [f_now, oV, fvl_0, fvl_1, fvl_2, fvl_3, fvl_4, fvl_5, fvl_6, bI_0]) (by simp_all [f_now, oC, bI_0, setg_id])
  refine g_tswc (5) (5) (87) 88 dX3_now_1 (by decide) (by decide) (by decide) rfl (by decide) (fun c1 => ?_) (fun c1_5 n1_5 => ?_)
  · refine g_aload_n dX3_now_88 rfl ?_
    refine g_getR dX3_now_89 fl_X3_12 rfl rfl ?_
    refine g_callV0i (c_X0_partedPairs inn1 hI) mi_X0_partedPairs mv_X0_partedPairs ml_X3_160 dX3_now_92 rfl rfl (by decide) (Nat.le_of_ble_eq_true rfl) (Nat.le_of_ble_eq_true rfl) ?_
    refine g_st (st2 := [.int (nI (parM (h 1) (nG (h 1))))]) (by rw [par_all _ _ hI.nG.1]) ?_
    exact g_ireturn dX3_now_95 (by simp_all [f_now, oV, fvl_0, fvl_1, fvl_2, fvl_3, fvl_4, fvl_5, fvl_6, bI_0]) (by simp_all [f_now, oC, bI_0, setg_id])
  refine g_tswc (6) (6) (95) 96 dX3_now_1 (by decide) (by decide) (by decide) rfl (by decide) (fun c1 => ?_) (fun c1_6 n1_6 => ?_)
  · refine g_aload_n dX3_now_96 rfl ?_
    refine g_getR dX3_now_97 fl_X3_12 rfl rfl ?_
    refine g_callV0i (c_X0_dishesOnCard inn1 hI) mi_X0_dishesOnCard mv_X0_dishesOnCard ml_X3_163 dX3_now_100 rfl rfl (by decide) (Nat.le_of_ble_eq_true rfl) (Nat.le_of_ble_eq_true rfl) ?_
    exact g_ireturn dX3_now_103 (by simp_all [f_now, oV, fvl_0, fvl_1, fvl_2, fvl_3, fvl_4, fvl_5, fvl_6, bI_0]) (by simp_all [f_now, oC, bI_0, setg_id])
  refine g_tswc (7) (7) (103) 104 dX3_now_1 (by decide) (by decide) (by decide) rfl (by decide) (fun c1 => ?_) (fun c1_7 n1_7 => ?_)
  · refine g_aload_n dX3_now_104 rfl ?_
    refine g_getR dX3_now_105 fl_X3_12 rfl rfl ?_
    refine g_callV0i (c_X0_deepestInDebt inn1 hI) mi_X0_deepestInDebt mv_X0_deepestInDebt ml_X3_166 dX3_now_108 rfl rfl (by decide) (Nat.le_of_ble_eq_true rfl) (Nat.le_of_ble_eq_true rfl) ?_
    exact g_ireturn dX3_now_111 (by simp_all [f_now, oV, fvl_0, fvl_1, fvl_2, fvl_3, fvl_4, fvl_5, fvl_6, bI_0]) (by simp_all [f_now, oC, bI_0, setg_id])
  refine g_tswd 112 dX3_now_1 (by omega) (by decide) ?_
  refine g_aload_n dX3_now_112 rfl ?_
  refine g_ldc dX3_now_113 lc_X3_52 ?_
  refine g_callV1i (c_X3_found 0 (by decide) (by decide)) mi_X3_found mv_X3_found ml_X3_53 dX3_now_115 rfl rfl (by decide) (Nat.le_of_ble_eq_true rfl) (Nat.le_of_ble_eq_true rfl) ?_
  exact g_ireturn dX3_now_118 (by simp_all [f_now, oV, fvl_0, fvl_1, fvl_2, fvl_3, fvl_4, fvl_5, fvl_6, bI_0]) (by simp_all [f_now, oC, bI_0, setg_id])

