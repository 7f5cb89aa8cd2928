set_option maxRecDepth 100000 in
set_option maxHeartbeats 4000000 in
theorem Ro_0 {args : Array Value} {s : State} {b L : Nat} {xs : Nat → Int32} (hts : ∀ w ∈ lw_tbl, w.before args s = true) (hgv : (Jvm.Cond.and given_1 narrow_1).before args s = true) (hX : va_X b L xs s s.heap) (hbl : b < s.heap.size) : ∃ (t0 t1 t2 t3 : Nat) (aK aV : Nat → Nat), ∀ w : va_W, Ro (xs, L) (mkAd w [t0, t1, t2, t3, b] aK aV) (fun q => s.heap.size ≤ q) s s.heap := by
  have hs : ∀ c ∈ FG, c.before args s = true := flat_of_before _ hgv
  have hA : ∀ a : Nat, a < s.heap.size → ¬ s.heap.size ≤ a := fun a ha => Nat.not_le.mpr ha
  obtain ⟨t0, h0⟩ := sArr_0 (C := "ForkInn$Inn") (n := "KIND_ABOVE") (l := kndAbove) hs (hts (.laysStatic "ForkInn$Inn" "KIND_ABOVE" "[I") (List.mem_of_getElem? (i := 650) (by decide +kernel))) (hts (.initialized "ForkInn$Inn") (List.mem_of_getElem? (i := 55) (by decide +kernel))) (by decide) fa_KIND_ABOVE fl_KIND_ABOVE fe_KIND_ABOVE
  obtain ⟨t1, h1⟩ := sArr_0 (C := "ForkInn$Inn") (n := "DISH_TOPS") (l := dshTops) hs (hts (.laysStatic "ForkInn$Inn" "DISH_TOPS" "[I") (List.mem_of_getElem? (i := 257) (by decide +kernel))) (hts (.initialized "ForkInn$Inn") (List.mem_of_getElem? (i := 55) (by decide +kernel))) (by decide) fa_DISH_TOPS fl_DISH_TOPS fe_DISH_TOPS
  obtain ⟨t2, h2⟩ := sArr_0 (C := "ForkInn$Inn") (n := "GUEST_TOPS") (l := gstTops) hs (hts (.laysStatic "ForkInn$Inn" "GUEST_TOPS" "[I") (List.mem_of_getElem? (i := 279) (by decide +kernel))) (hts (.initialized "ForkInn$Inn") (List.mem_of_getElem? (i := 55) (by decide +kernel))) (by decide) fa_GUEST_TOPS fl_GUEST_TOPS fe_GUEST_TOPS
  obtain ⟨t3, h3⟩ := sArr_0 (C := "ForkInnModel") (n := "NAMES") (l := nmes) hs (hts (.laysStatic "ForkInnModel" "NAMES" "[I") (List.mem_of_getElem? (i := 1070) (by decide +kernel))) (hts (.initialized "ForkInnModel") (List.mem_of_getElem? (i := 58) (by decide +kernel))) (by decide) fa_NAMES fl_NAMES fe_NAMES
  obtain ⟨aK, aV, hS, hE⟩ := vk_Sof (N := 13) (tm := fun i => (Term.string "ForkInn$Tape" (txs.getD i ("", 0)).2)) (len := txLen) (byt := txByt) (A := fun q => s.heap.size ≤ q) (by decide) (fun i hi => hs _ (ts_ex i hi)) (fun i hi => hs _ (ts_co i hi)) (fun i hi => hs _ (ts_ar i hi)) (fun i hi => hs _ (ts_le i hi)) (fun i hi j hj => hs _ (ts_el i hi j hj)) (fun i j hi hj n => (ts_ne i hi j hj n).imp (hs _) (hs _)) hA
  refine ⟨t0, t1, t2, t3, aK, aV, fun w => ⟨h0, h1, h2, h3, ⟨hX, hbl, hA b hbl⟩, fun i hi => ?_, ⟨fun i hi => ?_, fun i j hi hj e => ?_⟩, ?_, ?_⟩⟩
  · rw [mkAd_K _ _ _ _ hi]
    exact vk_R.of (hts _ (ts_rf i hi)) (hE i hi)
  · dsimp only
    rw [mkAd_K _ _ _ _ hi, mkAd_V _ _ _ _ hi]
    exact hS.1 i hi
  · dsimp only at e
    rw [mkAd_K _ _ _ _ hi, mkAd_K _ _ _ _ hj] at e
    exact hS.2 i j hi hj e
  · exact va_Zof (hts (.laysStatic "java/lang/String" "COMPACT_STRINGS" "Z") (List.mem_of_getElem? (i := 556) (by decide +kernel))) (hts (.initialized "java/lang/String") (List.mem_of_getElem? (i := 62) (by decide +kernel))) (va_eqt (hs _ fg_cs)) hA
  · exact va_Zqof (hts (.laysStatic "jdk/internal/util/Preconditions" "SIOOBE_FORMATTER" "Ljava/util/function/BiFunction;") (List.mem_of_getElem? (i := 572) (by decide +kernel))) (hts (.initialized "jdk/internal/util/Preconditions") (List.mem_of_getElem? (i := 64) (by decide +kernel))) (hs _ fg_sf) hA

set_option maxRecDepth 100000 in
set_option maxHeartbeats 4000000 in
theorem K_0 {args : Array Value} {s : State} (hts : ∀ w ∈ lw_tbl, w.before args s = true) : ∃ (D : va_G) (ca : Nat → ClassId), va_K D vwCl (tysOf ca) s ∧ va_AO "ForkInn$Sheet" s := by
  have htg : ∀ w ∈ gT, w.before args s = true := fun w hw => hts w (List.mem_filter.mp hw).1
  obtain ⟨c0, i0, k0⟩ := u_known (C := RX0) (T := TX0) (N := 8) (n := 8) htg iuX0 (hts (.instantiable "ForkInn$Inn" 8) (List.mem_of_getElem? (i := 75) (by decide +kernel)))
  obtain ⟨c1, i1, k1⟩ := u_known (C := RX1) (T := TX1) (N := 3) (n := 3) htg iuX1 (hts (.instantiable "ForkInn$Sheet" 3) (List.mem_of_getElem? (i := 143) (by decide +kernel)))
  obtain ⟨c2, i2, k2⟩ := u_known (C := RX2) (T := TX2) (N := 6) (n := 6) htg iuX2 (hts (.instantiable "ForkInn$Tape" 6) (List.mem_of_getElem? (i := 115) (by decide +kernel)))
  obtain ⟨c3, i3, k3⟩ := u_known (C := RX3) (T := TX3) (N := 7) (n := 7) htg iuX3 (hts (.instantiable "ForkInn" 7) (List.mem_of_getElem? (i := 67) (by decide +kernel)))
  obtain ⟨c4, i4, k4⟩ := u_known (C := RX4) (T := TX4) (N := 15) (n := 15) htg iuX4 (hts (.instantiable "ForkInnModel" 15) (List.mem_of_getElem? (i := 712) (by decide +kernel)))
  obtain ⟨cI, kI, pI, j1, j2, j3⟩ := Cond.arrayClass_spec (htg _ ac_I)
  obtain ⟨cB, kB, pB, b1, b2, b3⟩ := Cond.arrayClass_spec (htg _ ac_B)
  have hAO : va_AO "ForkInn$Sheet" s := va_AO.of (hts (.arrayOver (.object "ForkInn$Sheet")) (List.mem_of_getElem? (i := 142) (by decide +kernel)))
  obtain ⟨comp, cS, kS, s1, s2, s3, s4, s5⟩ := Cond.arrayOver_spec hAO
  refine ⟨(fun k => [c0, c1, c2, c3, c4].getD k c0, fun k => [i0, i1, i2, i3, i4].getD k i0), fun k => [cI, cB, cS].getD k cI, ⟨?_, ?_⟩, hAO⟩
  · intro k q hq
    match k, hq with
    | 0, hq => cases hq; exact k0
    | 1, hq => cases hq; exact k1
    | 2, hq => cases hq; exact k2
    | 3, hq => cases hq; exact k3
    | 4, hq => cases hq; exact k4
    | k + 5, hq => cases hq
  · intro k q hq
    match k, hq with
    | 0, hq => cases hq; exact ⟨fun n z => ⟨(fun k h => by cases h), kI, j2, pI, j3⟩, j1⟩
    | 1, hq => cases hq; exact ⟨fun n z => ⟨(fun k h => by cases h), kB, b2, pB, b3⟩, b1⟩
    | 2, hq => cases hq; exact ⟨fun n z => ⟨(fun k h => by cases h), kS, s3, comp, s4⟩, kS, comp, s3, s4, s1, s5⟩
    | k + 3, hq => cases hq

def EL (ca : Nat → ClassId) (b : Nat) : Ms := fun pc lv st ws cells slots => pc = 18 ∧ st = [] ∧ cells ≤ 600000 ∧ slots ≤ 7302250 ∧ ∃ (q : Nat) (u : Nat → Nat) (r : Nat) (v : Nat → Nat), ws = w37 ca q u r v ∧ lv = [(3, .int 0), (2, .ref r), (1, .ref q), (0, .ref b)]
set_option maxRecDepth 100000 in
set_option maxHeartbeats 4000000 in
theorem law_made (D : va_G) (ca : Nat → ClassId) (b : Nat) : Bd D ca false RL cL_law 4 14 600000 7302250 (EL ca b) 0 [(0, .ref b)] [] [] 0 0 := by
  refine b_new mk_X3 dL_law_0 cl_L_7 (by decide) (by decide) (fun q1 => ?_)
  refine b_dup dL_law_3 ?_
  refine b_ctor _ c_X3_init mi_X3_init ii_X3 rfl ml_L_9 dL_law_4 rfl (by decide) (by decide) (by decide) (Nat.le_of_ble_eq_true rfl) (fun u2 => ?_)
  refine b_astore_n [(1, .ref (q1)), (0, .ref (b))] dL_law_7 (by decide) rfl ?_
  refine b_new mk_X4 dL_law_8 cl_L_10 (by decide) (by decide) (fun q3 => ?_)
  refine b_dup dL_law_11 ?_
  refine b_ctor _ c_X4_init mi_X4_init ii_X4 rfl ml_L_12 dL_law_12 rfl (by decide) (by decide) (by decide) (Nat.le_of_ble_eq_true rfl) (fun u4 => ?_)
  refine b_astore_n [(2, .ref (q3)), (1, .ref (q1)), (0, .ref (b))] dL_law_15 (by decide) rfl ?_
  refine b_iconst (v := 0) dL_law_16 (by decide) ?_
  refine b_istore_n [(3, .int (0)), (2, .ref (q3)), (1, .ref (q1)), (0, .ref (b))] dL_law_17 (by decide) rfl ?_
  exact b_end ⟨rfl, rfl, Nat.le_of_ble_eq_true rfl, Nat.le_of_ble_eq_true rfl, q1, u2, q3, u4, rfl, rfl⟩

