/-! more of sheets; the class -/
def cpyR (sh : Rw) (so dO n : Nat) : Rw := fun k => if dO ≤ k ∧ k < dO + n then sh (so + (k - dO)) else sh k
theorem cpy_R (h : Hp) (g so dO n : Nat) : cpy h g so g dO n = setg h g (cpyR (h g) so dO n) := by
  funext a k
  unfold cpy setg cpyR
  by_cases e : a = g
  · subst e
    by_cases c : dO ≤ k ∧ k < dO + n
    · rw [if_pos ⟨rfl, c⟩, if_pos rfl, if_pos c]
    · rw [if_neg (fun q => c q.2), if_pos rfl, if_neg c]
  · rw [if_neg (fun q => e q.1), if_neg e]
def f_copy (sh : Rw) (s a t b n : Int32) : Oc := if inB s 0 3 && inB t 0 3 then (if sB sh (tn s) = 0 ∨ sB sh (tn t) = 0 then .inl 5 else if sB sh (tn s) = sB sh (tn t) then (if rngB (sL sh (tn s)) a n && rngB (sL sh (tn t)) b n then .inr (n, cpyR sh (8 + 40 * tn s + tn a) (8 + 40 * tn t + tn b) (tn n)) else .inl 0) else .inl 2) else .inl 0
theorem rng_of {sh : Rw} (h : InS sh) {s : Nat} (hs : s < 4) {a n : Int32} (hr : rngB (sL sh s) a n = true) : ∃ x y, tn (nI x) = x ∧ tn (nI y) = y ∧ a = nI x ∧ n = nI y ∧ x + y ≤ 40 ∧ x + y ≤ nL2 sh s := by
  have hL := h s hs
  unfold rngB at hr
  simp only [Bool.and_eq_true, Bool.not_eq_true', decide_eq_false_iff_not] at hr
  obtain ⟨⟨⟨r1, r2⟩, r3⟩, r4⟩ := hr
  obtain ⟨y, hy, rfl⟩ := nI_of r1
  obtain ⟨x, hx, rfl⟩ := nI_of r3
  rw [hL.2.2] at r2 r4
  have h2 : y ≤ nL2 sh s := Nat.le_of_not_lt (fun q => r2 (nI_lt q hy))
  rw [pk_sub h2] at r4
  have h4 : x ≤ nL2 sh s - y := Nat.le_of_not_lt (fun q => r4 (nI_lt q hx))
  exact ⟨x, y, nI_clamp hx, nI_clamp hy, rfl, rfl, by omega, by omega⟩
set_option maxRecDepth 100000 in
set_option maxHeartbeats 4000000 in
theorem c_X3_copy {X : Sc} {h : Hp} (hI : In (h 1)) (hS : InS (h 6)) {s a t b n : Int32} : Ct X yX3_copy cX3_copy 8 (some .int) 2 [.ref 0, .int s, .int a, .int t, .int b, .int n] h (some (.int (oV (f_copy (h 6) s a t b n)))) (oG 6 5 h (f_copy (h 6) s a t b n)) := by
  refine ⟨rfl, ?_⟩
  refine g_iload_n dX3_copy_0 rfl ?_
  refine g_callS1i (c_X3_isSheet) mi_X3_isSheet ms_X3_isSheet ml_X3_235 dX3_copy_1 (by decide) (Nat.le_of_ble_eq_true rfl) (Nat.le_of_ble_eq_true rfl) ?_
  refine g_if_eq 14 dX3_copy_4 (by decide) (fun c4 => ?_) (fun c4 => ?_)
  · refine g_aload_n dX3_copy_14 rfl ?_
    refine g_ldc dX3_copy_15 lc_X3_52 ?_
    refine g_callV1i (c_X3_found 0 (by decide) (by decide)) mi_X3_found mv_X3_found ml_X3_53 dX3_copy_17 rfl rfl (by decide) (Nat.le_of_ble_eq_true rfl) (Nat.le_of_ble_eq_true rfl) ?_
    exact g_ireturn dX3_copy_20 (by simp_all [f_copy, oV, fvl_0, fvl_1, fvl_2, fvl_3, fvl_4, fvl_5, fvl_6, bI_0]) (by simp_all [f_copy, oG, bI_0, setg_id])
  · refine g_iload_n dX3_copy_7 rfl ?_
    refine g_callS1i (c_X3_isSheet) mi_X3_isSheet ms_X3_isSheet ml_X3_235 dX3_copy_8 (by decide) (Nat.le_of_ble_eq_true rfl) (Nat.le_of_ble_eq_true rfl) ?_
    refine g_if_ne 21 dX3_copy_11 (by decide) (fun c11 => ?_) (fun c11 => ?_)
    · obtain ⟨j, hj, tj, rfl⟩ := inB_of 3 (by decide) (nb0 c4)
      obtain ⟨i, hi, ti, rfl⟩ := inB_of 3 (by decide) (nb0 c11)
      have hP : (inB (nI j) 0 3 && inB (nI i) 0 3) = true := by simp_all [bI_0]
      refine g_aload_n dX3_copy_21 rfl ?_
      refine g_getR dX3_copy_22 fl_X3_31 rfl rfl ?_
      refine g_iload_n dX3_copy_25 rfl ?_
      refine g_aald j dX3_copy_26 rfl (by omega) ?_
      refine g_astore dX3_copy_27 (by decide) rfl ?_
      refine g_aload_n dX3_copy_29 rfl ?_
      refine g_getR dX3_copy_30 fl_X3_31 rfl rfl ?_
      refine g_iload_n dX3_copy_33 rfl ?_
      refine g_aald i dX3_copy_34 rfl (by omega) ?_
      refine g_astore dX3_copy_35 (by decide) rfl ?_
      refine g_aload dX3_copy_37 rfl ?_
      refine g_callV0i (c_X1_isMissing (s := j) (sheetAt (by omega))) mi_X1_isMissing mv_X1_isMissing ml_X3_246 dX3_copy_39 (sheetAt (by omega)).1 rfl (by decide) (Nat.le_of_ble_eq_true rfl) (Nat.le_of_ble_eq_true rfl) ?_
      refine g_if_ne 53 dX3_copy_42 (by decide) (fun c42 => ?_) (fun c42 => ?_)
      · have m0 : sB (h 6) j = 0 ∨ sB (h 6) i = 0 := by first | (exact Or.inl (of_decide_eq_true (nb0 c42))) | (exact Or.inr (of_decide_eq_true (nb0 c50)))
        refine g_aload_n dX3_copy_53 rfl ?_
        refine g_ldc dX3_copy_54 lc_X3_230 ?_
        refine g_callV1i (c_X3_found 5 (by decide) (by decide)) mi_X3_found mv_X3_found ml_X3_53 dX3_copy_56 rfl rfl (by decide) (Nat.le_of_ble_eq_true rfl) (Nat.le_of_ble_eq_true rfl) ?_
        exact g_ireturn dX3_copy_59 (by rw [f_copy, if_pos hP, tj, ti, if_pos m0]; rfl) (by rw [f_copy, if_pos hP, tj, ti, if_pos m0]; rfl)
      · refine g_aload dX3_copy_45 rfl ?_
        refine g_callV0i (c_X1_isMissing (s := i) (sheetAt (by omega))) mi_X1_isMissing mv_X1_isMissing ml_X3_246 dX3_copy_47 (sheetAt (by omega)).1 rfl (by decide) (Nat.le_of_ble_eq_true rfl) (Nat.le_of_ble_eq_true rfl) ?_
        refine g_if_eq 60 dX3_copy_50 (by decide) (fun c50 => ?_) (fun c50 => ?_)
        · have m0 : ¬ (sB (h 6) j = 0 ∨ sB (h 6) i = 0) := by
            rintro (z | z)
            · exact absurd (b0 c42) (by simp [z])
            · exact absurd (b0 c50) (by simp [z])
          refine g_aload dX3_copy_60 rfl ?_
          refine g_getI dX3_copy_62 fl_X3_250 (sheetAt (by omega)).1 rfl ?_
          refine g_aload dX3_copy_65 rfl ?_
          refine g_getI dX3_copy_67 fl_X3_250 (sheetAt (by omega)).1 rfl ?_
          refine g_icmp_eq 80 dX3_copy_70 (by decide) (fun c70 => ?_) (fun c70 => ?_)
          · refine g_aload dX3_copy_80 rfl ?_
            refine g_iload_n dX3_copy_82 rfl ?_
            refine g_iload dX3_copy_83 rfl ?_
            refine g_callV2i (c_X1_hasRange (s := j) (sheetAt (by omega))) mi_X1_hasRange mv_X1_hasRange ml_X3_253 dX3_copy_85 (sheetAt (by omega)).1 rfl (by decide) (Nat.le_of_ble_eq_true rfl) (Nat.le_of_ble_eq_true rfl) ?_
            refine g_if_eq 103 dX3_copy_88 (by decide) (fun c88 => ?_) (fun c88 => ?_)
            · have r0 : ¬ (rngB (sL (h 6) j) a n && rngB (sL (h 6) i) b n) = true := by
                first | (simp [b0 c88]; done) | (simp [b0 c100]; done)
              refine g_aload_n dX3_copy_103 rfl ?_
              refine g_ldc dX3_copy_104 lc_X3_52 ?_
              refine g_callV1i (c_X3_found 0 (by decide) (by decide)) mi_X3_found mv_X3_found ml_X3_53 dX3_copy_106 rfl rfl (by decide) (Nat.le_of_ble_eq_true rfl) (Nat.le_of_ble_eq_true rfl) ?_
              exact g_ireturn dX3_copy_109 (by rw [f_copy, if_pos hP, tj, ti, if_neg m0, if_pos (show sB (h 6) j = sB (h 6) i from c70), if_neg r0]; rfl) (by rw [f_copy, if_pos hP, tj, ti, if_neg m0, if_pos (show sB (h 6) j = sB (h 6) i from c70), if_neg r0]; rfl)
            · refine g_aload dX3_copy_91 rfl ?_
              refine g_iload dX3_copy_93 rfl ?_
              refine g_iload dX3_copy_95 rfl ?_
              refine g_callV2i (c_X1_hasRange (s := i) (sheetAt (by omega))) mi_X1_hasRange mv_X1_hasRange ml_X3_253 dX3_copy_97 (sheetAt (by omega)).1 rfl (by decide) (Nat.le_of_ble_eq_true rfl) (Nat.le_of_ble_eq_true rfl) ?_
              refine g_if_ne 110 dX3_copy_100 (by decide) (fun c100 => ?_) (fun c100 => ?_)
              · have r1 := nb0 c88
                have r2 := nb0 c100
                obtain ⟨x, y, tx, ty, rfl, rfl, l1, -⟩ := rng_of hS (by omega) r1
                obtain ⟨x2, y2, tx2, ty2, rfl, ey, l2, -⟩ := rng_of hS (by omega) r2
                have e2 : y2 = y := by rw [← ty2, ← ey, ty]
                subst e2
                refine g_aload dX3_copy_110 rfl ?_
                refine g_getR dX3_copy_112 fl_X3_256 (sheetAt (by omega)).1 rfl ?_
                refine g_iload_n dX3_copy_115 rfl ?_
                refine g_aload dX3_copy_116 rfl ?_
                refine g_getR dX3_copy_118 fl_X3_256 (sheetAt (by omega)).1 rfl ?_
                refine g_iload dX3_copy_121 rfl ?_
                refine g_iload dX3_copy_123 rfl ?_
                refine g_copy x x2 y2 dX3_copy_125 (sheetAt (by omega)).2 (sheetAt (by omega)).2 rfl rfl rfl l1 l2 ml_X3_259 acN acS acI (by decide) (Nat.le_of_ble_eq_true rfl) ?_
                refine g_iload dX3_copy_128 rfl ?_
                exact g_ireturn dX3_copy_130 (by rw [f_copy, if_pos hP, tj, ti, if_neg m0, if_pos (show sB (h 6) j = sB (h 6) i from c70), if_pos (by rw [r1, r2]; rfl)]; rfl) (by rw [f_copy, if_pos hP, tj, ti, if_neg m0, if_pos (show sB (h 6) j = sB (h 6) i from c70), if_pos (by rw [r1, r2]; rfl), tx, tx2, ty2, cpy_R]; rfl)
              · have r0 : ¬ (rngB (sL (h 6) j) a n && rngB (sL (h 6) i) b n) = true := by
                  first | (simp [b0 c88]; done) | (simp [b0 c100]; done)
                refine g_aload_n dX3_copy_103 rfl ?_
                refine g_ldc dX3_copy_104 lc_X3_52 ?_
                refine g_callV1i (c_X3_found 0 (by decide) (by decide)) mi_X3_found mv_X3_found ml_X3_53 dX3_copy_106 rfl rfl (by decide) (Nat.le_of_ble_eq_true rfl) (Nat.le_of_ble_eq_true rfl) ?_
                exact g_ireturn dX3_copy_109 (by rw [f_copy, if_pos hP, tj, ti, if_neg m0, if_pos (show sB (h 6) j = sB (h 6) i from c70), if_neg r0]; rfl) (by rw [f_copy, if_pos hP, tj, ti, if_neg m0, if_pos (show sB (h 6) j = sB (h 6) i from c70), if_neg r0]; rfl)
          · refine g_aload_n dX3_copy_73 rfl ?_
            refine g_ldc dX3_copy_74 lc_X3_234 ?_
            refine g_callV1i (c_X3_found 2 (by decide) (by decide)) mi_X3_found mv_X3_found ml_X3_53 dX3_copy_76 rfl rfl (by decide) (Nat.le_of_ble_eq_true rfl) (Nat.le_of_ble_eq_true rfl) ?_
            exact g_ireturn dX3_copy_79 (by rw [f_copy, if_pos hP, tj, ti, if_neg m0, if_neg (show ¬ sB (h 6) j = sB (h 6) i from c70)]; rfl) (by rw [f_copy, if_pos hP, tj, ti, if_neg m0, if_neg (show ¬ sB (h 6) j = sB (h 6) i from c70)]; rfl)
        · have m0 : sB (h 6) j = 0 ∨ sB (h 6) i = 0 := by first | (exact Or.inl (of_decide_eq_true (nb0 c42))) | (exact Or.inr (of_decide_eq_true (nb0 c50)))
          refine g_aload_n dX3_copy_53 rfl ?_
          refine g_ldc dX3_copy_54 lc_X3_230 ?_
          refine g_callV1i (c_X3_found 5 (by decide) (by decide)) mi_X3_found mv_X3_found ml_X3_53 dX3_copy_56 rfl rfl (by decide) (Nat.le_of_ble_eq_true rfl) (Nat.le_of_ble_eq_true rfl) ?_
          exact g_ireturn dX3_copy_59 (by rw [f_copy, if_pos hP, tj, ti, if_pos m0]; rfl) (by rw [f_copy, if_pos hP, tj, ti, if_pos m0]; rfl)
    · refine g_aload_n dX3_copy_14 rfl ?_
      refine g_ldc dX3_copy_15 lc_X3_52 ?_
      refine g_callV1i (c_X3_found 0 (by decide) (by decide)) mi_X3_found mv_X3_found ml_X3_53 dX3_copy_17 rfl rfl (by decide) (Nat.le_of_ble_eq_true rfl) (Nat.le_of_ble_eq_true rfl) ?_
      exact g_ireturn dX3_copy_20 (by simp_all [f_copy, oV, fvl_0, fvl_1, fvl_2, fvl_3, fvl_4, fvl_5, fvl_6, bI_0]) (by simp_all [f_copy, oG, bI_0, setg_id])

