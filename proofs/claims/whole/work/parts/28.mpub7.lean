/-! THE REFERENCE'S COPY -/
theorem nIsub_lt {L x y : Nat} (hL : L < 2 ^ 30) (hx : x < 2 ^ 31) (hy : y < 2 ^ 31) : nI L - nI x < nI y ↔ L < x + y := by
  rw [Int32.lt_iff_toInt_lt, nI_toInt hy]
  have e : (nI L - nI x).toInt = (L : Int) - x := by
    have h1 : nI L - nI x = Int32.ofInt ((L : Int) - x) := by
      rw [show nI L = Int32.ofInt (L : Int) from by unfold nI; rw [Int32.ofInt_eq_ofNat], show nI x = Int32.ofInt (x : Int) from by unfold nI; rw [Int32.ofInt_eq_ofNat], Int32.ofInt_sub]
    rw [h1, Int32.toInt_ofInt_of_le (by omega) (by omega)]
  rw [e]
  omega
/-- the reference's way to ask for a range -/
def rngM (l a n : Int32) : Bool := !decide (n < 0) && !decide (a < 0) && !decide (l - a < n)
theorem rng_n1 {L x y : Nat} (c : ¬ x + y ≤ L) (c2 : y ≤ L) : L - y < x := by omega
theorem rng_n2 {L x y : Nat} (hL30 : L < 2 ^ 30) (hL31 : L < 2 ^ 31) (hx : x < 2 ^ 31) (hy : y < 2 ^ 31) (c : x + y ≤ L) : decide (nI L < nI y) = false ∧ decide (nI L - nI y < nI x) = false ∧ decide (nI L - nI x < nI y) = false := by
  have c1 : y ≤ L := Nat.le_trans (Nat.le_add_left y x) c
  have c3 : x ≤ L - y := Nat.le_sub_of_add_le c
  have c4 : L - y < 2 ^ 31 := Nat.lt_of_le_of_lt (Nat.sub_le _ _) hL31
  exact ⟨decide_eq_false (nI_nlt c1 hL31), by rw [pk_sub c1]; exact decide_eq_false (nI_nlt c3 c4), decide_eq_false (fun q => absurd ((nIsub_lt hL30 hx hy).mp q) (Nat.not_lt.mpr c))⟩
theorem rng_n3 {L x y : Nat} (hL30 : L < 2 ^ 30) (hL31 : L < 2 ^ 31) (hx : x < 2 ^ 31) (hy : y < 2 ^ 31) (c : ¬ x + y ≤ L) : decide (nI L - nI x < nI y) = true ∧ (decide (nI L < nI y) = true ∨ decide (nI L - nI y < nI x) = true) := by
  refine ⟨decide_eq_true ((nIsub_lt hL30 hx hy).mpr (Nat.lt_of_not_le c)), ?_⟩
  by_cases c2 : y ≤ L
  · refine Or.inr ?_
    rw [pk_sub c2]
    exact decide_eq_true (nI_lt (rng_n1 c c2) hx)
  · exact Or.inl (decide_eq_true (nI_lt (Nat.lt_of_not_le c2) hy))
theorem rng_eq {L : Nat} (hL : L ≤ 40) (a n : Int32) : rngB (nI L) a n = rngM (nI L) a n := by
  unfold rngB rngM
  have hL30 : L < 2 ^ 30 := by omega
  have hL31 : L < 2 ^ 31 := by omega
  by_cases hn : n < 0
  · rw [decide_eq_true hn]; simp only [Bool.not_true, Bool.false_and]
  · by_cases ha : a < 0
    · rw [decide_eq_true ha, decide_eq_false hn]; simp only [Bool.not_true, Bool.and_false, Bool.false_and]
    · obtain ⟨y, hy, rfl⟩ := nI_of hn
      obtain ⟨x, hx, rfl⟩ := nI_of ha
      rw [decide_eq_false hn, decide_eq_false ha]
      by_cases c : x + y ≤ L
      · obtain ⟨q1, q2, q3⟩ := rng_n2 hL30 hL31 hx hy c
        rw [q1, q2, q3]; rfl
      · obtain ⟨q1, q2 | q2⟩ := rng_n3 hL30 hL31 hx hy c
        · rw [q1, q2]; simp
        · rw [q1, q2]; simp
def ncp (o : Oc) : Int32 := match o with | .inl k => fvl k | .inr _ => 0
theorem cp_c (sh : Rw) (s a t b n : Int32) : (∃ k, (k = 0 ∨ k = 2 ∨ k = 5) ∧ f_copy sh s a t b n = .inl k) ∨ ∃ q, f_copy sh s a t b n = .inr q := by
  unfold f_copy
  split
  · split
    · exact Or.inl ⟨5, by decide, rfl⟩
    · split
      · split
        · exact Or.inr ⟨_, rfl⟩
        · exact Or.inl ⟨0, by decide, rfl⟩
      · exact Or.inl ⟨2, by decide, rfl⟩
  · exact Or.inl ⟨0, by decide, rfl⟩
theorem cp_k {sh : Rw} {s a t b n : Int32} (h : ¬ ncp (f_copy sh s a t b n) = 0) : ∃ k, k < 7 ∧ f_copy sh s a t b n = .inl k ∧ ncp (f_copy sh s a t b n) = fvl k ∧ -1000001 - ncp (f_copy sh s a t b n) = nI k := by
  rcases cp_c sh s a t b n with ⟨k, hk, e⟩ | ⟨q, e⟩
  · refine ⟨k, by omega, e, by rw [e]; rfl, ?_⟩
    rw [e]
    show -1000001 - fvl k = nI k
    rcases hk with rfl | rfl | rfl <;> decide
  · rw [e] at h; exact absurd rfl h
set_option maxRecDepth 100000 in
set_option maxHeartbeats 4000000 in
theorem c_X4_notCopied {X : Sc} {h : Hp} (hS : InS (h 16)) {s a t b n : Int32} : Ct X yX4_notCopied cX4_notCopied 7 (some .int) 2 [.ref 28, .int s, .int a, .int t, .int b, .int n] h (some (.int (ncp (f_copy (h 16) s a t b n)))) h := by
  refine ⟨rfl, ?_⟩
  refine g_iload_n dX4_notCopied_0 rfl ?_
  refine g_callS1i (c_X4_isSheet) mi_X4_isSheet ms_X4_isSheet ml_X4_170 dX4_notCopied_1 (by decide) (Nat.le_of_ble_eq_true rfl) (Nat.le_of_ble_eq_true rfl) ?_
  refine g_if_eq 14 dX4_notCopied_4 (by decide) (fun c4 => ?_) (fun c4 => ?_)
  · refine g_ldc dX4_notCopied_14 lc_X4_34 ?_
    exact g_ireturn dX4_notCopied_16 (by rw [f_copy, if_neg (by first | (simp [b0 c4]; done) | (simp [b0 c11]; done))]; rfl) rfl
  · refine g_iload_n dX4_notCopied_7 rfl ?_
    refine g_callS1i (c_X4_isSheet) mi_X4_isSheet ms_X4_isSheet ml_X4_170 dX4_notCopied_8 (by decide) (Nat.le_of_ble_eq_true rfl) (Nat.le_of_ble_eq_true rfl) ?_
    refine g_if_ne 17 dX4_notCopied_11 (by decide) (fun c11 => ?_) (fun c11 => ?_)
    · obtain ⟨j, hj, tj, rfl⟩ := inB_of 3 (by decide) (nb0 c4)
      obtain ⟨i, hi, ti, rfl⟩ := inB_of 3 (by decide) (nb0 c11)
      have hP : (inB (nI j) 0 3 && inB (nI i) 0 3) = true := by simp_all [bI_0]
      refine g_aload_n dX4_notCopied_17 rfl ?_
      refine g_getR dX4_notCopied_18 fl_X4_22 rfl rfl ?_
      refine g_iload_n dX4_notCopied_21 rfl ?_
      refine g_iald0 j dX4_notCopied_22 rfl rfl (by omega) ?_
      refine g_if_eq 35 dX4_notCopied_23 (by decide) (fun c23 => ?_) (fun c23 => ?_)
      · have m0 : sB (h 16) j = 0 ∨ sB (h 16) i = 0 := by first | exact Or.inl c23 | exact Or.inr c32
        refine g_ldc dX4_notCopied_35 lc_X4_173 ?_
        exact g_ireturn dX4_notCopied_37 (by rw [f_copy, if_pos hP, tj, ti, if_pos m0]; rfl) rfl
      · refine g_aload_n dX4_notCopied_26 rfl ?_
        refine g_getR dX4_notCopied_27 fl_X4_22 rfl rfl ?_
        refine g_iload_n dX4_notCopied_30 rfl ?_
        refine g_iald0 i dX4_notCopied_31 rfl rfl (by omega) ?_
        refine g_if_ne 38 dX4_notCopied_32 (by decide) (fun c32 => ?_) (fun c32 => ?_)
        · have m0 : ¬ (sB (h 16) j = 0 ∨ sB (h 16) i = 0) := by
            rintro (z | z)
            · exact c23 z
            · exact c32 z
          refine g_aload_n dX4_notCopied_38 rfl ?_
          refine g_getR dX4_notCopied_39 fl_X4_22 rfl rfl ?_
          refine g_iload_n dX4_notCopied_42 rfl ?_
          refine g_iald0 j dX4_notCopied_43 rfl rfl (by omega) ?_
          refine g_aload_n dX4_notCopied_44 rfl ?_
          refine g_getR dX4_notCopied_45 fl_X4_22 rfl rfl ?_
          refine g_iload_n dX4_notCopied_48 rfl ?_
          refine g_iald0 i dX4_notCopied_49 rfl rfl (by omega) ?_
          refine g_icmp_eq 56 dX4_notCopied_50 (by decide) (fun c50 => ?_) (fun c50 => ?_)
          · have lj := hS j (by omega)
            have li := hS i (by omega)
            refine g_iload dX4_notCopied_56 rfl ?_
            refine g_if_lt 101 dX4_notCopied_58 (by decide) (fun c58 => ?_) (fun c58 => ?_)
            · have r0 : ¬ (rngB (sL (h 16) j) a n && rngB (sL (h 16) i) b n) = true := by
                rw [lj.2.2, rng_eq lj.2.1, ← lj.2.2, li.2.2, rng_eq li.2.1, ← li.2.2]
                unfold rngM sL
                first | (rw [decide_eq_true c58]; simp; done) | (rw [decide_eq_true c62]; simp; done) | (rw [decide_eq_true c67]; simp; done) | (rw [decide_eq_true c80]; simp; done) | (rw [decide_eq_true c94]; simp; done)
              refine g_iconst dX4_notCopied_101 ic_0 ?_
              refine g_istore dX4_notCopied_102 (by decide) rfl ?_
              refine g_iload dX4_notCopied_104 rfl ?_
              refine g_if_eq 113 dX4_notCopied_106 (by decide) (fun c106 => ?_) (fun c106 => ?_)
              · first
                | exact absurd c106 (by decide)
                | (refine g_ldc dX4_notCopied_113 lc_X4_34 ?_
                   exact g_ireturn dX4_notCopied_115 (by first | (rw [f_copy, if_pos hP, tj, ti, if_neg m0, if_pos (show sB (h 16) j = sB (h 16) i from c50), if_pos (by rw [r1, r2]; rfl)]; rfl) | (rw [f_copy, if_pos hP, tj, ti, if_neg m0, if_pos (show sB (h 16) j = sB (h 16) i from c50), if_neg r0]; rfl)) rfl)
              · first
                | exact absurd rfl c106
                | (refine g_iconst dX4_notCopied_109 ic_0 ?_
                   refine g_goto 115 dX4_notCopied_110 (by decide) ?_
                   exact g_ireturn dX4_notCopied_115 (by first | (rw [f_copy, if_pos hP, tj, ti, if_neg m0, if_pos (show sB (h 16) j = sB (h 16) i from c50), if_pos (by rw [r1, r2]; rfl)]; rfl) | (rw [f_copy, if_pos hP, tj, ti, if_neg m0, if_pos (show sB (h 16) j = sB (h 16) i from c50), if_neg r0]; rfl)) rfl)
            · refine g_iload_n dX4_notCopied_61 rfl ?_
              refine g_if_lt 101 dX4_notCopied_62 (by decide) (fun c62 => ?_) (fun c62 => ?_)
              · have r0 : ¬ (rngB (sL (h 16) j) a n && rngB (sL (h 16) i) b n) = true := by
                  rw [lj.2.2, rng_eq lj.2.1, ← lj.2.2, li.2.2, rng_eq li.2.1, ← li.2.2]
                  unfold rngM sL
                  first | (rw [decide_eq_true c58]; simp; done) | (rw [decide_eq_true c62]; simp; done) | (rw [decide_eq_true c67]; simp; done) | (rw [decide_eq_true c80]; simp; done) | (rw [decide_eq_true c94]; simp; done)
                refine g_iconst dX4_notCopied_101 ic_0 ?_
                refine g_istore dX4_notCopied_102 (by decide) rfl ?_
                refine g_iload dX4_notCopied_104 rfl ?_
                refine g_if_eq 113 dX4_notCopied_106 (by decide) (fun c106 => ?_) (fun c106 => ?_)
                · first
                  | exact absurd c106 (by decide)
                  | (refine g_ldc dX4_notCopied_113 lc_X4_34 ?_
                     exact g_ireturn dX4_notCopied_115 (by first | (rw [f_copy, if_pos hP, tj, ti, if_neg m0, if_pos (show sB (h 16) j = sB (h 16) i from c50), if_pos (by rw [r1, r2]; rfl)]; rfl) | (rw [f_copy, if_pos hP, tj, ti, if_neg m0, if_pos (show sB (h 16) j = sB (h 16) i from c50), if_neg r0]; rfl)) rfl)
                · first
                  | exact absurd rfl c106
                  | (refine g_iconst dX4_notCopied_109 ic_0 ?_
                     refine g_goto 115 dX4_notCopied_110 (by decide) ?_
                     exact g_ireturn dX4_notCopied_115 (by first | (rw [f_copy, if_pos hP, tj, ti, if_neg m0, if_pos (show sB (h 16) j = sB (h 16) i from c50), if_pos (by rw [r1, r2]; rfl)]; rfl) | (rw [f_copy, if_pos hP, tj, ti, if_neg m0, if_pos (show sB (h 16) j = sB (h 16) i from c50), if_neg r0]; rfl)) rfl)
              · refine g_iload dX4_notCopied_65 rfl ?_
                refine g_if_lt 101 dX4_notCopied_67 (by decide) (fun c67 => ?_) (fun c67 => ?_)
                · have r0 : ¬ (rngB (sL (h 16) j) a n && rngB (sL (h 16) i) b n) = true := by
                    rw [lj.2.2, rng_eq lj.2.1, ← lj.2.2, li.2.2, rng_eq li.2.1, ← li.2.2]
                    unfold rngM sL
                    first | (rw [decide_eq_true c58]; simp; done) | (rw [decide_eq_true c62]; simp; done) | (rw [decide_eq_true c67]; simp; done) | (rw [decide_eq_true c80]; simp; done) | (rw [decide_eq_true c94]; simp; done)
                  refine g_iconst dX4_notCopied_101 ic_0 ?_
                  refine g_istore dX4_notCopied_102 (by decide) rfl ?_
                  refine g_iload dX4_notCopied_104 rfl ?_
                  refine g_if_eq 113 dX4_notCopied_106 (by decide) (fun c106 => ?_) (fun c106 => ?_)
                  · first
                    | exact absurd c106 (by decide)
                    | (refine g_ldc dX4_notCopied_113 lc_X4_34 ?_
                       exact g_ireturn dX4_notCopied_115 (by first | (rw [f_copy, if_pos hP, tj, ti, if_neg m0, if_pos (show sB (h 16) j = sB (h 16) i from c50), if_pos (by rw [r1, r2]; rfl)]; rfl) | (rw [f_copy, if_pos hP, tj, ti, if_neg m0, if_pos (show sB (h 16) j = sB (h 16) i from c50), if_neg r0]; rfl)) rfl)
                  · first
                    | exact absurd rfl c106
                    | (refine g_iconst dX4_notCopied_109 ic_0 ?_
                       refine g_goto 115 dX4_notCopied_110 (by decide) ?_
                       exact g_ireturn dX4_notCopied_115 (by first | (rw [f_copy, if_pos hP, tj, ti, if_neg m0, if_pos (show sB (h 16) j = sB (h 16) i from c50), if_pos (by rw [r1, r2]; rfl)]; rfl) | (rw [f_copy, if_pos hP, tj, ti, if_neg m0, if_pos (show sB (h 16) j = sB (h 16) i from c50), if_neg r0]; rfl)) rfl)
                · refine g_iload dX4_notCopied_70 rfl ?_
                  refine g_aload_n dX4_notCopied_72 rfl ?_
                  refine g_getR dX4_notCopied_73 fl_X4_25 rfl rfl ?_
                  refine g_iload_n dX4_notCopied_76 rfl ?_
                  refine g_iald j dX4_notCopied_77 rfl rfl (by omega) ?_
                  refine g_iload_n dX4_notCopied_78 rfl ?_
                  refine g_isub dX4_notCopied_79 ?_
                  refine g_icmp_gt 101 dX4_notCopied_80 (by decide) (fun c80 => ?_) (fun c80 => ?_)
                  · have r0 : ¬ (rngB (sL (h 16) j) a n && rngB (sL (h 16) i) b n) = true := by
                      rw [lj.2.2, rng_eq lj.2.1, ← lj.2.2, li.2.2, rng_eq li.2.1, ← li.2.2]
                      unfold rngM sL
                      first | (rw [decide_eq_true c58]; simp; done) | (rw [decide_eq_true c62]; simp; done) | (rw [decide_eq_true c67]; simp; done) | (rw [decide_eq_true c80]; simp; done) | (rw [decide_eq_true c94]; simp; done)
                    refine g_iconst dX4_notCopied_101 ic_0 ?_
                    refine g_istore dX4_notCopied_102 (by decide) rfl ?_
                    refine g_iload dX4_notCopied_104 rfl ?_
                    refine g_if_eq 113 dX4_notCopied_106 (by decide) (fun c106 => ?_) (fun c106 => ?_)
                    · first
                      | exact absurd c106 (by decide)
                      | (refine g_ldc dX4_notCopied_113 lc_X4_34 ?_
                         exact g_ireturn dX4_notCopied_115 (by first | (rw [f_copy, if_pos hP, tj, ti, if_neg m0, if_pos (show sB (h 16) j = sB (h 16) i from c50), if_pos (by rw [r1, r2]; rfl)]; rfl) | (rw [f_copy, if_pos hP, tj, ti, if_neg m0, if_pos (show sB (h 16) j = sB (h 16) i from c50), if_neg r0]; rfl)) rfl)
                    · first
                      | exact absurd rfl c106
                      | (refine g_iconst dX4_notCopied_109 ic_0 ?_
                         refine g_goto 115 dX4_notCopied_110 (by decide) ?_
                         exact g_ireturn dX4_notCopied_115 (by first | (rw [f_copy, if_pos hP, tj, ti, if_neg m0, if_pos (show sB (h 16) j = sB (h 16) i from c50), if_pos (by rw [r1, r2]; rfl)]; rfl) | (rw [f_copy, if_pos hP, tj, ti, if_neg m0, if_pos (show sB (h 16) j = sB (h 16) i from c50), if_neg r0]; rfl)) rfl)
                  · refine g_iload dX4_notCopied_83 rfl ?_
                    refine g_aload_n dX4_notCopied_85 rfl ?_
                    refine g_getR dX4_notCopied_86 fl_X4_25 rfl rfl ?_
                    refine g_iload_n dX4_notCopied_89 rfl ?_
                    refine g_iald i dX4_notCopied_90 rfl rfl (by omega) ?_
                    refine g_iload dX4_notCopied_91 rfl ?_
                    refine g_isub dX4_notCopied_93 ?_
                    refine g_icmp_gt 101 dX4_notCopied_94 (by decide) (fun c94 => ?_) (fun c94 => ?_)
                    · have r0 : ¬ (rngB (sL (h 16) j) a n && rngB (sL (h 16) i) b n) = true := by
                        rw [lj.2.2, rng_eq lj.2.1, ← lj.2.2, li.2.2, rng_eq li.2.1, ← li.2.2]
                        unfold rngM sL
                        first | (rw [decide_eq_true c58]; simp; done) | (rw [decide_eq_true c62]; simp; done) | (rw [decide_eq_true c67]; simp; done) | (rw [decide_eq_true c80]; simp; done) | (rw [decide_eq_true c94]; simp; done)
                      refine g_iconst dX4_notCopied_101 ic_0 ?_
                      refine g_istore dX4_notCopied_102 (by decide) rfl ?_
                      refine g_iload dX4_notCopied_104 rfl ?_
                      refine g_if_eq 113 dX4_notCopied_106 (by decide) (fun c106 => ?_) (fun c106 => ?_)
                      · first
                        | exact absurd c106 (by decide)
                        | (refine g_ldc dX4_notCopied_113 lc_X4_34 ?_
                           exact g_ireturn dX4_notCopied_115 (by first | (rw [f_copy, if_pos hP, tj, ti, if_neg m0, if_pos (show sB (h 16) j = sB (h 16) i from c50), if_pos (by rw [r1, r2]; rfl)]; rfl) | (rw [f_copy, if_pos hP, tj, ti, if_neg m0, if_pos (show sB (h 16) j = sB (h 16) i from c50), if_neg r0]; rfl)) rfl)
                      · first
                        | exact absurd rfl c106
                        | (refine g_iconst dX4_notCopied_109 ic_0 ?_
                           refine g_goto 115 dX4_notCopied_110 (by decide) ?_
                           exact g_ireturn dX4_notCopied_115 (by first | (rw [f_copy, if_pos hP, tj, ti, if_neg m0, if_pos (show sB (h 16) j = sB (h 16) i from c50), if_pos (by rw [r1, r2]; rfl)]; rfl) | (rw [f_copy, if_pos hP, tj, ti, if_neg m0, if_pos (show sB (h 16) j = sB (h 16) i from c50), if_neg r0]; rfl)) rfl)
                    · have r1 : rngB (sL (h 16) j) a n = true := by rw [lj.2.2, rng_eq lj.2.1, ← lj.2.2]; unfold rngM sL; rw [decide_eq_false c58, decide_eq_false c62, decide_eq_false c80]; rfl
                      have r2 : rngB (sL (h 16) i) b n = true := by rw [li.2.2, rng_eq li.2.1, ← li.2.2]; unfold rngM sL; rw [decide_eq_false c58, decide_eq_false c67, decide_eq_false c94]; rfl
                      refine g_iconst dX4_notCopied_97 ic_1 ?_
                      refine g_goto 102 dX4_notCopied_98 (by decide) ?_
                      refine g_istore dX4_notCopied_102 (by decide) rfl ?_
                      refine g_iload dX4_notCopied_104 rfl ?_
                      refine g_if_eq 113 dX4_notCopied_106 (by decide) (fun c106 => ?_) (fun c106 => ?_)
                      · first
                        | exact absurd c106 (by decide)
                        | (refine g_ldc dX4_notCopied_113 lc_X4_34 ?_
                           exact g_ireturn dX4_notCopied_115 (by first | (rw [f_copy, if_pos hP, tj, ti, if_neg m0, if_pos (show sB (h 16) j = sB (h 16) i from c50), if_pos (by rw [r1, r2]; rfl)]; rfl) | (rw [f_copy, if_pos hP, tj, ti, if_neg m0, if_pos (show sB (h 16) j = sB (h 16) i from c50), if_neg r0]; rfl)) rfl)
                      · first
                        | exact absurd rfl c106
                        | (refine g_iconst dX4_notCopied_109 ic_0 ?_
                           refine g_goto 115 dX4_notCopied_110 (by decide) ?_
                           exact g_ireturn dX4_notCopied_115 (by first | (rw [f_copy, if_pos hP, tj, ti, if_neg m0, if_pos (show sB (h 16) j = sB (h 16) i from c50), if_pos (by rw [r1, r2]; rfl)]; rfl) | (rw [f_copy, if_pos hP, tj, ti, if_neg m0, if_pos (show sB (h 16) j = sB (h 16) i from c50), if_neg r0]; rfl)) rfl)
          · refine g_ldc dX4_notCopied_53 lc_X4_243 ?_
            exact g_ireturn dX4_notCopied_55 (by rw [f_copy, if_pos hP, tj, ti, if_neg m0, if_neg (show ¬ sB (h 16) j = sB (h 16) i from c50)]; rfl) rfl
        · have m0 : sB (h 16) j = 0 ∨ sB (h 16) i = 0 := by first | exact Or.inl c23 | exact Or.inr c32
          refine g_ldc dX4_notCopied_35 lc_X4_173 ?_
          exact g_ireturn dX4_notCopied_37 (by rw [f_copy, if_pos hP, tj, ti, if_pos m0]; rfl) rfl
    · refine g_ldc dX4_notCopied_14 lc_X4_34 ?_
      exact g_ireturn dX4_notCopied_16 (by rw [f_copy, if_neg (by first | (simp [b0 c4]; done) | (simp [b0 c11]; done))]; rfl) rfl

