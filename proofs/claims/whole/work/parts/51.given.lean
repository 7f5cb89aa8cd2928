/-! WHAT IS GIVEN AT THE BEGIN -/
def FG : List Cond := flatC (Jvm.Cond.and given_1 narrow_1)
theorem sArr_0 {C n : String} {l : List Int32} {args : Array Value} {s : State} (hs : ∀ c ∈ FG, c.before args s = true) (hla : (Cond.laysStatic C n "[I").before args s = true) (hin : (Cond.initialized C).before args s = true) (hN : l.length < 2 ^ 31) (h1 : Cond.arrayOf (.static C n "[I") .int ∈ FG) (h2 : Cond.eq (.length (.static C n "[I")) (.int (Int32.ofNat l.length)) ∈ FG) (h3 : ∀ j, j < l.length → Cond.eq (.elem (.static C n "[I") (.int (Int32.ofNat j))) (.int (l.getD j 0)) ∈ FG) : ∃ t, sArr C n l t (fun q => s.heap.size ≤ q) s s.heap := by
  obtain ⟨t, ht, hT⟩ := va_Tof (f := fun j => .int (l.getD j 0)) (A := fun q => s.heap.size ≤ q) hN (hs _ h1) (va_eqt (hs _ h2)) (fun j hj => va_eqt (hs _ (h3 j hj))) (fun a ha => Nat.not_le.mpr ha)
  exact ⟨t, va_Zof hla hin ht (fun a ha => Nat.not_le.mpr ha), hT⟩

set_option maxRecDepth 100000 in
set_option maxHeartbeats 4000000 in
theorem fa_KIND_ABOVE : Cond.arrayOf (.static "ForkInn$Inn" "KIND_ABOVE" "[I") .int ∈ FG := by decide +kernel
set_option maxRecDepth 100000 in
set_option maxHeartbeats 4000000 in
theorem fl_KIND_ABOVE : Cond.eq (.length (.static "ForkInn$Inn" "KIND_ABOVE" "[I")) (.int (Int32.ofNat kndAbove.length)) ∈ FG := by decide +kernel
set_option maxRecDepth 100000 in
set_option maxHeartbeats 4000000 in
theorem fe_KIND_ABOVE : ∀ j, j < kndAbove.length → Cond.eq (.elem (.static "ForkInn$Inn" "KIND_ABOVE" "[I") (.int (Int32.ofNat j))) (.int (kndAbove.getD j 0)) ∈ FG := by decide +kernel
set_option maxRecDepth 100000 in
set_option maxHeartbeats 4000000 in
theorem fa_DISH_TOPS : Cond.arrayOf (.static "ForkInn$Inn" "DISH_TOPS" "[I") .int ∈ FG := by decide +kernel
set_option maxRecDepth 100000 in
set_option maxHeartbeats 4000000 in
theorem fl_DISH_TOPS : Cond.eq (.length (.static "ForkInn$Inn" "DISH_TOPS" "[I")) (.int (Int32.ofNat dshTops.length)) ∈ FG := by decide +kernel
set_option maxRecDepth 100000 in
set_option maxHeartbeats 4000000 in
theorem fe_DISH_TOPS : ∀ j, j < dshTops.length → Cond.eq (.elem (.static "ForkInn$Inn" "DISH_TOPS" "[I") (.int (Int32.ofNat j))) (.int (dshTops.getD j 0)) ∈ FG := by decide +kernel
set_option maxRecDepth 100000 in
set_option maxHeartbeats 4000000 in
theorem fa_GUEST_TOPS : Cond.arrayOf (.static "ForkInn$Inn" "GUEST_TOPS" "[I") .int ∈ FG := by decide +kernel
set_option maxRecDepth 100000 in
set_option maxHeartbeats 4000000 in
theorem fl_GUEST_TOPS : Cond.eq (.length (.static "ForkInn$Inn" "GUEST_TOPS" "[I")) (.int (Int32.ofNat gstTops.length)) ∈ FG := by decide +kernel
set_option maxRecDepth 100000 in
set_option maxHeartbeats 4000000 in
theorem fe_GUEST_TOPS : ∀ j, j < gstTops.length → Cond.eq (.elem (.static "ForkInn$Inn" "GUEST_TOPS" "[I") (.int (Int32.ofNat j))) (.int (gstTops.getD j 0)) ∈ FG := by decide +kernel
set_option maxRecDepth 100000 in
set_option maxHeartbeats 4000000 in
theorem fa_NAMES : Cond.arrayOf (.static "ForkInnModel" "NAMES" "[I") .int ∈ FG := by decide +kernel
set_option maxRecDepth 100000 in
set_option maxHeartbeats 4000000 in
theorem fl_NAMES : Cond.eq (.length (.static "ForkInnModel" "NAMES" "[I")) (.int (Int32.ofNat nmes.length)) ∈ FG := by decide +kernel
set_option maxRecDepth 100000 in
set_option maxHeartbeats 4000000 in
theorem fe_NAMES : ∀ j, j < nmes.length → Cond.eq (.elem (.static "ForkInnModel" "NAMES" "[I") (.int (Int32.ofNat j))) (.int (nmes.getD j 0)) ∈ FG := by decide +kernel
set_option maxRecDepth 100000 in
set_option maxHeartbeats 4000000 in
theorem ts_ex : ∀ i, i < 13 → Cond.exactly (Term.string "ForkInn$Tape" (txs.getD i ("", 0)).2) "java/lang/String" ∈ FG := by decide +kernel
set_option maxRecDepth 100000 in
set_option maxHeartbeats 4000000 in
theorem ts_co : ∀ i, i < 13 → Cond.eq (.field (Term.string "ForkInn$Tape" (txs.getD i ("", 0)).2) "java/lang/String" "coder" "B") (.int 0) ∈ FG := by decide +kernel
set_option maxRecDepth 100000 in
set_option maxHeartbeats 4000000 in
theorem ts_ar : ∀ i, i < 13 → Cond.arrayOf (Term.field (Term.string "ForkInn$Tape" (txs.getD i ("", 0)).2) "java/lang/String" "value" "[B") .byte ∈ FG := by decide +kernel
set_option maxRecDepth 100000 in
set_option maxHeartbeats 4000000 in
theorem ts_le : ∀ i, i < 13 → Cond.eq (.length (Term.field (Term.string "ForkInn$Tape" (txs.getD i ("", 0)).2) "java/lang/String" "value" "[B")) (.int (Int32.ofNat (txLen.getD i 0))) ∈ FG := by decide +kernel
set_option maxRecDepth 100000 in
set_option maxHeartbeats 4000000 in
theorem ts_el : ∀ i, i < 13 → ∀ j, j < txLen.getD i 0 → Cond.eq (.elem (Term.field (Term.string "ForkInn$Tape" (txs.getD i ("", 0)).2) "java/lang/String" "value" "[B") (.int (Int32.ofNat j))) (.int ((txByt.getD i []).getD j 0)) ∈ FG := by decide +kernel
def neQ : Cond → Option (Nat × Nat)
  | .not (.eq (.string s a) (.string t b)) => if s = "ForkInn$Tape" ∧ t = "ForkInn$Tape" then some (a, b) else none
  | _ => none
theorem neQ_of {c : Cond} {p : Nat × Nat} (h : neQ c = some p) : c = .not (.eq (.string "ForkInn$Tape" p.1) (.string "ForkInn$Tape" p.2)) := by
  unfold neQ at h
  split at h
  · split at h
    · rename_i q
      cases h
      rw [q.1, q.2]
    · cases h
  · cases h
def prs : List (Nat × Nat) := [(33, 84), (33, 42), (84, 42), (33, 107), (84, 107), (42, 107), (33, 109), (84, 109), (42, 109), (107, 109), (33, 111), (84, 111), (42, 111), (107, 111), (109, 111), (33, 113), (84, 113), (42, 113), (107, 113), (109, 113), (111, 113), (33, 115), (84, 115), (42, 115), (107, 115), (109, 115), (111, 115), (113, 115), (33, 117), (84, 117), (42, 117), (107, 117), (109, 117), (111, 117), (113, 117), (115, 117), (33, 119), (84, 119), (42, 119), (107, 119), (109, 119), (111, 119), (113, 119), (115, 119), (117, 119), (33, 64), (84, 64), (42, 64), (107, 64), (109, 64), (111, 64), (113, 64), (115, 64), (117, 64), (119, 64), (33, 69), (84, 69), (42, 69), (107, 69), (109, 69), (111, 69), (113, 69), (115, 69), (117, 69), (119, 69), (64, 69), (33, 79), (84, 79), (42, 79), (107, 79), (109, 79), (111, 79), (113, 79), (115, 79), (117, 79), (119, 79), (64, 79), (69, 79)]
set_option maxRecDepth 100000 in
set_option maxHeartbeats 4000000 in
theorem prs_ok : FG.filterMap neQ = prs := by decide +kernel
theorem prs_in {p : Nat × Nat} (h : p ∈ prs) : Cond.not (.eq (.string "ForkInn$Tape" p.1) (.string "ForkInn$Tape" p.2)) ∈ FG := by
  rw [← prs_ok] at h
  obtain ⟨c, h1, h2⟩ := List.mem_filterMap.mp h
  rw [← neQ_of h2]
  exact h1
def prH (a b : Nat) : Bool := prs.any fun p => Nat.beq p.1 a && Nat.beq p.2 b
theorem prH_in {a b : Nat} (h : prH a b = true) : (a, b) ∈ prs := by
  obtain ⟨p, h1, h2⟩ := List.any_eq_true.mp h
  rw [Bool.and_eq_true] at h2
  have e1 := Nat.eq_of_beq_eq_true h2.1
  have e2 := Nat.eq_of_beq_eq_true h2.2
  rw [← e1, ← e2]
  exact h1
def prB : Bool := (List.range 13).all fun i => (List.range 13).all fun j => Nat.beq i j || (prH (txs.getD i ("", 0)).2 (txs.getD j ("", 0)).2 || prH (txs.getD j ("", 0)).2 (txs.getD i ("", 0)).2)
theorem prB_ok : prB = true := by decide +kernel
theorem prs_all (i : Nat) (hi : i < 13) (j : Nat) (hj : j < 13) (n : i ≠ j) : ((txs.getD i ("", 0)).2, (txs.getD j ("", 0)).2) ∈ prs ∨ ((txs.getD j ("", 0)).2, (txs.getD i ("", 0)).2) ∈ prs := by
  have h := List.all_eq_true.mp (List.all_eq_true.mp prB_ok i (List.mem_range.mpr hi)) j (List.mem_range.mpr hj)
  rw [Bool.or_eq_true, Bool.or_eq_true] at h
  rcases h with h | h | h
  · exact absurd (Nat.eq_of_beq_eq_true h) n
  · exact Or.inl (prH_in h)
  · exact Or.inr (prH_in h)
theorem ts_ne : ∀ i, i < 13 → ∀ j, j < 13 → i ≠ j → Cond.not (Cond.eq (Term.string "ForkInn$Tape" (txs.getD i ("", 0)).2) (Term.string "ForkInn$Tape" (txs.getD j ("", 0)).2)) ∈ FG ∨ Cond.not (Cond.eq (Term.string "ForkInn$Tape" (txs.getD j ("", 0)).2) (Term.string "ForkInn$Tape" (txs.getD i ("", 0)).2)) ∈ FG := fun i hi j hj n => (prs_all i hi j hj n).imp prs_in prs_in
set_option maxRecDepth 100000 in
set_option maxHeartbeats 4000000 in
theorem ts_rf : ∀ i, i < 13 → Cond.stringRef "ForkInn$Tape" (txs.getD i ("", 0)).2 (txs.getD i ("", 0)).1 ∈ lw_tbl := by decide +kernel
set_option maxRecDepth 100000 in
set_option maxHeartbeats 4000000 in
theorem fg_cs : Cond.eq (.static "java/lang/String" "COMPACT_STRINGS" "Z") (.int 1) ∈ FG := by decide +kernel
set_option maxRecDepth 100000 in
set_option maxHeartbeats 4000000 in
theorem fg_sf : Cond.isRef (.static "jdk/internal/util/Preconditions" "SIOOBE_FORMATTER" "Ljava/util/function/BiFunction;") ∈ FG := by decide +kernel
