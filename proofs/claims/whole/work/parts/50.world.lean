/-! THE FIRST STATE -/
def row0 : Rw := fun k => if k = 1 then 1 else if 88 ≤ k ∧ k < 98 then -1 else 0
theorem row0_z {k : Nat} (h : k ≠ 1) (h2 : k < 88) : row0 k = 0 := by
  unfold row0
  rw [if_neg h, if_neg (by omega)]
theorem row0_s {j : Nat} (h : j < 10) : row0 (88 + j) = -1 := by
  unfold row0
  rw [if_neg (by omega), if_pos (by omega)]
def hp0 : Hp := fun g => if g = 1 ∨ g = 2 ∨ g = 3 ∨ g = 11 then row0 else fun _ => 0
theorem hp0_1 : hp0 1 = row0 := rfl
theorem hp0_2 : hp0 2 = row0 := rfl
theorem hp0_3 : hp0 3 = row0 := rfl
theorem hp0_11 : hp0 11 = row0 := rfl
theorem okc_0 (k : Nat) : okc k 0 := by
  unfold okc
  repeat' split
  all_goals omega
theorem In_0 : In row0 := ⟨fun k h n => ⟨0, okc_0 k, (row0_z n h).trans nI_0.symm⟩, fun s hs => Or.inl (row0_s hs)⟩
theorem Rel_0 : Rel hp0 := by
  refine ⟨In_0, rfl, fun s hs => ⟨Or.inl rfl, Nat.zero_le _, nI_0.symm⟩, rfl, rfl, ⟨⟨Nat.zero_le _, nI_0.symm⟩, rfl, fun j => ⟨by show (0 : Int32) = 0 &&& 255; decide, by show (0 : Int32).toInt8.toInt32 = 0; decide⟩⟩, rfl, Or.inl rfl⟩
theorem at_ext {D : va_G} {a n : Nat} {cA : ClassId} {f g : Nat → Int32} {H : Heap} (h : ∀ j, j < n → f j = g j) (hv : va_at D vwCl (a, .inl (cA, n, .inl f)) H) : va_at D vwCl (a, .inl (cA, n, .inl g)) H := by
  show H[a]? = some (vp_cell cA (n, .inl g))
  rw [vp_cell_i, ← arrV_ext cA (f := fun j => .int (f j)) (fun j hj => by
    show Value.int _ = Value.int _
    rw [h j hj])]
  exact hv
theorem at_exq {D : va_G} {a n : Nat} {cA : ClassId} {f g : Nat → Option Nat} {H : Heap} (h : ∀ j, j < n → f j = g j) (hv : va_at D vwCl (a, .inl (cA, n, .inr (.inr (.inr (.inr f))))) H) : va_at D vwCl (a, .inl (cA, n, .inr (.inr (.inr (.inr g))))) H := by
  show H[a]? = some (vp_cell cA (n, .inr (.inr (.inr (.inr g)))))
  rw [vp_cell_q, ← arrV_ext cA (f := fun j => va_rf (f j)) (fun j hj => by rw [h j hj])]
  exact hv
theorem spC_ok : ∀ j, j < 10 → spF j = -1 := by decide
theorem mC_ok : ∀ j, j < 98 → mF j = row0 j := by decide
/-- where things lie -/
def mkAd (w : va_W) (t : List Nat) (aK aV : Nat → Nat) : Nat → Nat := fun i => if i < 100 then (w.map (fun q => q.1)).getD i 0 else if i < 110 then t.getD (i - 100) 0 else if i < 130 then aK (i - 110) else aV (i - 130)
theorem mkAd_K (w : va_W) (t : List Nat) (aK aV : Nat → Nat) {i : Nat} (h : i < 13) : mkAd w t aK aV (110 + i) = aK i := by
  unfold mkAd
  rw [if_neg (by omega), if_neg (by omega), if_pos (by omega), show 110 + i - 110 = i by omega]
theorem mkAd_V (w : va_W) (t : List Nat) (aK aV : Nat → Nat) {i : Nat} (h : i < 13) : mkAd w t aK aV (130 + i) = aV i := by
  unfold mkAd
  rw [if_neg (by omega), if_neg (by omega), if_neg (by omega), show 130 + i - 130 = i by omega]
theorem mkAd_w (w : va_W) (t : List Nat) (aK aV : Nat → Nat) {i : Nat} (h : i < 100) {q : Nat × va_E} (e : w[i]? = some q) : mkAd w t aK aV i = q.1 := by
  unfold mkAd
  rw [if_pos h, List.getD_eq_getElem?_getD, List.getElem?_map, e]
  rfl
abbrev w37 (ca : Nat → ClassId) (a : Nat) (u : Nat → Nat) (b : Nat) (v : Nat → Nat) : va_W := wX3 ca a u ++ wX4 ca b v
theorem apD_0 {A : Nat → Prop} {ca : Nat → ClassId} {a b : Nat} {u v : Nat → Nat} (h : va_D A (w37 ca a u b v)) (t : List Nat) (aK aV : Nat → Nat) : apD A (mkAd (w37 ca a u b v) t aK aV) := by
  have hl : (w37 ca a u b v).length = 37 := rfl
  have k : ∀ i, i < 37 → ∃ q, (w37 ca a u b v)[i]? = some q ∧ mkAd (w37 ca a u b v) t aK aV i = q.1 := fun i hi =>
    ⟨_, List.getElem?_eq_getElem (by rw [hl]; exact hi), mkAd_w _ _ _ _ (by omega) (List.getElem?_eq_getElem (by rw [hl]; exact hi))⟩
  refine ⟨fun i j hi hj e => ?_, fun i hi => ?_⟩
  · obtain ⟨q1, e1, f1⟩ := k i hi
    obtain ⟨q2, e2, f2⟩ := k j hj
    exact h.1 i j q1 q2 e1 e2 (by rw [← f1, ← f2]; exact e)
  · obtain ⟨q1, e1, f1⟩ := k i hi
    rw [f1]
    exact h.2 i q1 e1

set_option maxRecDepth 100000 in
set_option maxHeartbeats 1000000 in
theorem wp_0 {D : va_G} {ca : Nat → ClassId} {a b : Nat} {u v : Nat → Nat} {H : Heap} (h : va_P D vwCl (w37 ca a u b v) H) (t : List Nat) (aK aV : Nat → Nat) : va_at D vwCl ((mkAd (w37 ca a u b v) t aK aV) 0, cE (mkAd (w37 ca a u b v) t aK aV) ca hp0 (.inl (3, [.inl 1, .inl 6, .inl 11, .inl 16, .inl 18, .inl 27, .inr (0, 0)]))) H := h 0 _ rfl
set_option maxRecDepth 100000 in
set_option maxHeartbeats 1000000 in
theorem wp_1 {D : va_G} {ca : Nat → ClassId} {a b : Nat} {u v : Nat → Nat} {H : Heap} (h : va_P D vwCl (w37 ca a u b v) H) (t : List Nat) (aK aV : Nat → Nat) : va_at D vwCl ((mkAd (w37 ca a u b v) t aK aV) 1, cE (mkAd (w37 ca a u b v) t aK aV) ca hp0 (.inl (0, [.inl 2, .inl 3, .inl 4, .inl 5, .inr (1, 2), .inr (1, 3), .inr (1, 0), .inr (1, 1)]))) H := h 1 _ rfl
set_option maxRecDepth 100000 in
set_option maxHeartbeats 1000000 in
theorem wp_2 {D : va_G} {ca : Nat → ClassId} {a b : Nat} {u v : Nat → Nat} {H : Heap} (h : va_P D vwCl (w37 ca a u b v) H) (t : List Nat) (aK aV : Nat → Nat) : va_at D vwCl ((mkAd (w37 ca a u b v) t aK aV) 2, cE (mkAd (w37 ca a u b v) t aK aV) ca hp0 (.inr (0, 6, 1, 4))) H := at_ext (f := fun _ => 0) (fun j hj => (row0_z (k := 4 + j) (by omega) (by omega)).symm) (h 2 _ rfl)
set_option maxRecDepth 100000 in
set_option maxHeartbeats 1000000 in
theorem wp_3 {D : va_G} {ca : Nat → ClassId} {a b : Nat} {u v : Nat → Nat} {H : Heap} (h : va_P D vwCl (w37 ca a u b v) H) (t : List Nat) (aK aV : Nat → Nat) : va_at D vwCl ((mkAd (w37 ca a u b v) t aK aV) 3, cE (mkAd (w37 ca a u b v) t aK aV) ca hp0 (.inr (0, 48, 1, 10))) H := at_ext (f := fun _ => 0) (fun j hj => (row0_z (k := 10 + j) (by omega) (by omega)).symm) (h 3 _ rfl)
set_option maxRecDepth 100000 in
set_option maxHeartbeats 1000000 in
theorem wp_4 {D : va_G} {ca : Nat → ClassId} {a b : Nat} {u v : Nat → Nat} {H : Heap} (h : va_P D vwCl (w37 ca a u b v) H) (t : List Nat) (aK aV : Nat → Nat) : va_at D vwCl ((mkAd (w37 ca a u b v) t aK aV) 4, cE (mkAd (w37 ca a u b v) t aK aV) ca hp0 (.inr (0, 30, 1, 58))) H := at_ext (f := fun _ => 0) (fun j hj => (row0_z (k := 58 + j) (by omega) (by omega)).symm) (h 4 _ rfl)
set_option maxRecDepth 100000 in
set_option maxHeartbeats 1000000 in
theorem wp_5 {D : va_G} {ca : Nat → ClassId} {a b : Nat} {u v : Nat → Nat} {H : Heap} (h : va_P D vwCl (w37 ca a u b v) H) (t : List Nat) (aK aV : Nat → Nat) : va_at D vwCl ((mkAd (w37 ca a u b v) t aK aV) 5, cE (mkAd (w37 ca a u b v) t aK aV) ca hp0 (.inr (0, 10, 1, 88))) H := at_ext (f := spF) (fun j hj => (spC_ok j hj).trans (row0_s hj).symm) (h 5 _ rfl)
set_option maxRecDepth 100000 in
set_option maxHeartbeats 1000000 in
theorem wp_6 {D : va_G} {ca : Nat → ClassId} {a b : Nat} {u v : Nat → Nat} {H : Heap} (h : va_P D vwCl (w37 ca a u b v) H) (t : List Nat) (aK aV : Nat → Nat) : va_at D vwCl ((mkAd (w37 ca a u b v) t aK aV) 6, cE (mkAd (w37 ca a u b v) t aK aV) ca hp0 (.inl (0, [.inl 7, .inl 8, .inl 9, .inl 10, .inr (2, 2), .inr (2, 3), .inr (2, 0), .inr (2, 1)]))) H := h 6 _ rfl
set_option maxRecDepth 100000 in
set_option maxHeartbeats 1000000 in
theorem wp_7 {D : va_G} {ca : Nat → ClassId} {a b : Nat} {u v : Nat → Nat} {H : Heap} (h : va_P D vwCl (w37 ca a u b v) H) (t : List Nat) (aK aV : Nat → Nat) : va_at D vwCl ((mkAd (w37 ca a u b v) t aK aV) 7, cE (mkAd (w37 ca a u b v) t aK aV) ca hp0 (.inr (0, 6, 2, 4))) H := at_ext (f := fun _ => 0) (fun j hj => (row0_z (k := 4 + j) (by omega) (by omega)).symm) (h 7 _ rfl)
set_option maxRecDepth 100000 in
set_option maxHeartbeats 1000000 in
theorem wp_8 {D : va_G} {ca : Nat → ClassId} {a b : Nat} {u v : Nat → Nat} {H : Heap} (h : va_P D vwCl (w37 ca a u b v) H) (t : List Nat) (aK aV : Nat → Nat) : va_at D vwCl ((mkAd (w37 ca a u b v) t aK aV) 8, cE (mkAd (w37 ca a u b v) t aK aV) ca hp0 (.inr (0, 48, 2, 10))) H := at_ext (f := fun _ => 0) (fun j hj => (row0_z (k := 10 + j) (by omega) (by omega)).symm) (h 8 _ rfl)
set_option maxRecDepth 100000 in
set_option maxHeartbeats 1000000 in
theorem wp_9 {D : va_G} {ca : Nat → ClassId} {a b : Nat} {u v : Nat → Nat} {H : Heap} (h : va_P D vwCl (w37 ca a u b v) H) (t : List Nat) (aK aV : Nat → Nat) : va_at D vwCl ((mkAd (w37 ca a u b v) t aK aV) 9, cE (mkAd (w37 ca a u b v) t aK aV) ca hp0 (.inr (0, 30, 2, 58))) H := at_ext (f := fun _ => 0) (fun j hj => (row0_z (k := 58 + j) (by omega) (by omega)).symm) (h 9 _ rfl)
set_option maxRecDepth 100000 in
set_option maxHeartbeats 1000000 in
theorem wp_10 {D : va_G} {ca : Nat → ClassId} {a b : Nat} {u v : Nat → Nat} {H : Heap} (h : va_P D vwCl (w37 ca a u b v) H) (t : List Nat) (aK aV : Nat → Nat) : va_at D vwCl ((mkAd (w37 ca a u b v) t aK aV) 10, cE (mkAd (w37 ca a u b v) t aK aV) ca hp0 (.inr (0, 10, 2, 88))) H := at_ext (f := spF) (fun j hj => (spC_ok j hj).trans (row0_s hj).symm) (h 10 _ rfl)
set_option maxRecDepth 100000 in
set_option maxHeartbeats 1000000 in
theorem wp_11 {D : va_G} {ca : Nat → ClassId} {a b : Nat} {u v : Nat → Nat} {H : Heap} (h : va_P D vwCl (w37 ca a u b v) H) (t : List Nat) (aK aV : Nat → Nat) : va_at D vwCl ((mkAd (w37 ca a u b v) t aK aV) 11, cE (mkAd (w37 ca a u b v) t aK aV) ca hp0 (.inl (0, [.inl 12, .inl 13, .inl 14, .inl 15, .inr (3, 2), .inr (3, 3), .inr (3, 0), .inr (3, 1)]))) H := h 11 _ rfl
set_option maxRecDepth 100000 in
set_option maxHeartbeats 1000000 in
theorem wp_12 {D : va_G} {ca : Nat → ClassId} {a b : Nat} {u v : Nat → Nat} {H : Heap} (h : va_P D vwCl (w37 ca a u b v) H) (t : List Nat) (aK aV : Nat → Nat) : va_at D vwCl ((mkAd (w37 ca a u b v) t aK aV) 12, cE (mkAd (w37 ca a u b v) t aK aV) ca hp0 (.inr (0, 6, 3, 4))) H := at_ext (f := fun _ => 0) (fun j hj => (row0_z (k := 4 + j) (by omega) (by omega)).symm) (h 12 _ rfl)
set_option maxRecDepth 100000 in
set_option maxHeartbeats 1000000 in
theorem wp_13 {D : va_G} {ca : Nat → ClassId} {a b : Nat} {u v : Nat → Nat} {H : Heap} (h : va_P D vwCl (w37 ca a u b v) H) (t : List Nat) (aK aV : Nat → Nat) : va_at D vwCl ((mkAd (w37 ca a u b v) t aK aV) 13, cE (mkAd (w37 ca a u b v) t aK aV) ca hp0 (.inr (0, 48, 3, 10))) H := at_ext (f := fun _ => 0) (fun j hj => (row0_z (k := 10 + j) (by omega) (by omega)).symm) (h 13 _ rfl)
set_option maxRecDepth 100000 in
set_option maxHeartbeats 1000000 in
theorem wp_14 {D : va_G} {ca : Nat → ClassId} {a b : Nat} {u v : Nat → Nat} {H : Heap} (h : va_P D vwCl (w37 ca a u b v) H) (t : List Nat) (aK aV : Nat → Nat) : va_at D vwCl ((mkAd (w37 ca a u b v) t aK aV) 14, cE (mkAd (w37 ca a u b v) t aK aV) ca hp0 (.inr (0, 30, 3, 58))) H := at_ext (f := fun _ => 0) (fun j hj => (row0_z (k := 58 + j) (by omega) (by omega)).symm) (h 14 _ rfl)
set_option maxRecDepth 100000 in
set_option maxHeartbeats 1000000 in
theorem wp_15 {D : va_G} {ca : Nat → ClassId} {a b : Nat} {u v : Nat → Nat} {H : Heap} (h : va_P D vwCl (w37 ca a u b v) H) (t : List Nat) (aK aV : Nat → Nat) : va_at D vwCl ((mkAd (w37 ca a u b v) t aK aV) 15, cE (mkAd (w37 ca a u b v) t aK aV) ca hp0 (.inr (0, 10, 3, 88))) H := at_ext (f := spF) (fun j hj => (spC_ok j hj).trans (row0_s hj).symm) (h 15 _ rfl)
set_option maxRecDepth 100000 in
set_option maxHeartbeats 1000000 in
theorem wp_16 {D : va_G} {ca : Nat → ClassId} {a b : Nat} {u v : Nat → Nat} {H : Heap} (h : va_P D vwCl (w37 ca a u b v) H) (t : List Nat) (aK aV : Nat → Nat) : va_at D vwCl ((mkAd (w37 ca a u b v) t aK aV) 16, cE (mkAd (w37 ca a u b v) t aK aV) ca hp0 (.inl (2, [.inl 17, .inr (4, 0), .inr (4, 1), .inr (4, 2), .inr (4, 3), .inr (4, 4)]))) H := h 16 _ rfl
set_option maxRecDepth 100000 in
set_option maxHeartbeats 1000000 in
theorem wp_17 {D : va_G} {ca : Nat → ClassId} {a b : Nat} {u v : Nat → Nat} {H : Heap} (h : va_P D vwCl (w37 ca a u b v) H) (t : List Nat) (aK aV : Nat → Nat) : va_at D vwCl ((mkAd (w37 ca a u b v) t aK aV) 17, cE (mkAd (w37 ca a u b v) t aK aV) ca hp0 (.inr (1, 120, 4, 10))) H := at_ext (f := fun _ => 0) (fun j hj => rfl) (h 17 _ rfl)
set_option maxRecDepth 100000 in
set_option maxHeartbeats 1000000 in
theorem wp_18 {D : va_G} {ca : Nat → ClassId} {a b : Nat} {u v : Nat → Nat} {H : Heap} (h : va_P D vwCl (w37 ca a u b v) H) (t : List Nat) (aK aV : Nat → Nat) : va_at D vwCl ((mkAd (w37 ca a u b v) t aK aV) 18, cE (mkAd (w37 ca a u b v) t aK aV) ca hp0 (.inr (2, 4, 0, 100))) H := at_exq (f := va_up (va_up (va_up (va_up (fun _ => none) 0 (some (u 19))) 1 (some (u 21))) 2 (some (u 23))) 3 (some (u 25))) (fun j hj => by
  match j, hj with
  | 0, _ => rfl
  | 1, _ => rfl
  | 2, _ => rfl
  | 3, _ => rfl
  | j + 4, q => exact absurd q (by omega)) (h 18 _ rfl)
set_option maxRecDepth 100000 in
set_option maxHeartbeats 1000000 in
theorem wp_19 {D : va_G} {ca : Nat → ClassId} {a b : Nat} {u v : Nat → Nat} {H : Heap} (h : va_P D vwCl (w37 ca a u b v) H) (t : List Nat) (aK aV : Nat → Nat) : va_at D vwCl ((mkAd (w37 ca a u b v) t aK aV) 19, cE (mkAd (w37 ca a u b v) t aK aV) ca hp0 (.inl (1, [.inl 20, .inr (6, 0), .inr (6, 4)]))) H := h 19 _ rfl
set_option maxRecDepth 100000 in
set_option maxHeartbeats 1000000 in
theorem wp_20 {D : va_G} {ca : Nat → ClassId} {a b : Nat} {u v : Nat → Nat} {H : Heap} (h : va_P D vwCl (w37 ca a u b v) H) (t : List Nat) (aK aV : Nat → Nat) : va_at D vwCl ((mkAd (w37 ca a u b v) t aK aV) 20, cE (mkAd (w37 ca a u b v) t aK aV) ca hp0 (.inr (0, 40, 6, 8))) H := at_ext (f := fun _ => 0) (fun j hj => rfl) (h 20 _ rfl)
set_option maxRecDepth 100000 in
set_option maxHeartbeats 1000000 in
theorem wp_21 {D : va_G} {ca : Nat → ClassId} {a b : Nat} {u v : Nat → Nat} {H : Heap} (h : va_P D vwCl (w37 ca a u b v) H) (t : List Nat) (aK aV : Nat → Nat) : va_at D vwCl ((mkAd (w37 ca a u b v) t aK aV) 21, cE (mkAd (w37 ca a u b v) t aK aV) ca hp0 (.inl (1, [.inl 22, .inr (6, 1), .inr (6, 5)]))) H := h 21 _ rfl
set_option maxRecDepth 100000 in
set_option maxHeartbeats 1000000 in
theorem wp_22 {D : va_G} {ca : Nat → ClassId} {a b : Nat} {u v : Nat → Nat} {H : Heap} (h : va_P D vwCl (w37 ca a u b v) H) (t : List Nat) (aK aV : Nat → Nat) : va_at D vwCl ((mkAd (w37 ca a u b v) t aK aV) 22, cE (mkAd (w37 ca a u b v) t aK aV) ca hp0 (.inr (0, 40, 6, 48))) H := at_ext (f := fun _ => 0) (fun j hj => rfl) (h 22 _ rfl)
set_option maxRecDepth 100000 in
set_option maxHeartbeats 1000000 in
theorem wp_23 {D : va_G} {ca : Nat → ClassId} {a b : Nat} {u v : Nat → Nat} {H : Heap} (h : va_P D vwCl (w37 ca a u b v) H) (t : List Nat) (aK aV : Nat → Nat) : va_at D vwCl ((mkAd (w37 ca a u b v) t aK aV) 23, cE (mkAd (w37 ca a u b v) t aK aV) ca hp0 (.inl (1, [.inl 24, .inr (6, 2), .inr (6, 6)]))) H := h 23 _ rfl
set_option maxRecDepth 100000 in
set_option maxHeartbeats 1000000 in
theorem wp_24 {D : va_G} {ca : Nat → ClassId} {a b : Nat} {u v : Nat → Nat} {H : Heap} (h : va_P D vwCl (w37 ca a u b v) H) (t : List Nat) (aK aV : Nat → Nat) : va_at D vwCl ((mkAd (w37 ca a u b v) t aK aV) 24, cE (mkAd (w37 ca a u b v) t aK aV) ca hp0 (.inr (0, 40, 6, 88))) H := at_ext (f := fun _ => 0) (fun j hj => rfl) (h 24 _ rfl)
set_option maxRecDepth 100000 in
set_option maxHeartbeats 1000000 in
theorem wp_25 {D : va_G} {ca : Nat → ClassId} {a b : Nat} {u v : Nat → Nat} {H : Heap} (h : va_P D vwCl (w37 ca a u b v) H) (t : List Nat) (aK aV : Nat → Nat) : va_at D vwCl ((mkAd (w37 ca a u b v) t aK aV) 25, cE (mkAd (w37 ca a u b v) t aK aV) ca hp0 (.inl (1, [.inl 26, .inr (6, 3), .inr (6, 7)]))) H := h 25 _ rfl
set_option maxRecDepth 100000 in
set_option maxHeartbeats 1000000 in
theorem wp_26 {D : va_G} {ca : Nat → ClassId} {a b : Nat} {u v : Nat → Nat} {H : Heap} (h : va_P D vwCl (w37 ca a u b v) H) (t : List Nat) (aK aV : Nat → Nat) : va_at D vwCl ((mkAd (w37 ca a u b v) t aK aV) 26, cE (mkAd (w37 ca a u b v) t aK aV) ca hp0 (.inr (0, 40, 6, 128))) H := at_ext (f := fun _ => 0) (fun j hj => rfl) (h 26 _ rfl)
set_option maxRecDepth 100000 in
set_option maxHeartbeats 1000000 in
theorem wp_27 {D : va_G} {ca : Nat → ClassId} {a b : Nat} {u v : Nat → Nat} {H : Heap} (h : va_P D vwCl (w37 ca a u b v) H) (t : List Nat) (aK aV : Nat → Nat) : va_at D vwCl ((mkAd (w37 ca a u b v) t aK aV) 27, cE (mkAd (w37 ca a u b v) t aK aV) ca hp0 (.inr (0, 7, 5, 0))) H := at_ext (f := fun _ => 0) (fun j hj => rfl) (h 27 _ rfl)
set_option maxRecDepth 100000 in
set_option maxHeartbeats 1000000 in
theorem wp_28 {D : va_G} {ca : Nat → ClassId} {a b : Nat} {u v : Nat → Nat} {H : Heap} (h : va_P D vwCl (w37 ca a u b v) H) (t : List Nat) (aK aV : Nat → Nat) : va_at D vwCl ((mkAd (w37 ca a u b v) t aK aV) 28, cE (mkAd (w37 ca a u b v) t aK aV) ca hp0 (.inl (4, [.inl 29, .inl 30, .inl 31, .inr (10, 0), .inl 32, .inl 33, .inl 34, .inl 35, .inl 36, .inr (14, 0), .inr (14, 1), .inr (14, 2), .inr (14, 3), .inr (14, 4), .inr (14, 5)]))) H := h 28 _ rfl
set_option maxRecDepth 100000 in
set_option maxHeartbeats 1000000 in
theorem wp_29 {D : va_G} {ca : Nat → ClassId} {a b : Nat} {u v : Nat → Nat} {H : Heap} (h : va_P D vwCl (w37 ca a u b v) H) (t : List Nat) (aK aV : Nat → Nat) : va_at D vwCl ((mkAd (w37 ca a u b v) t aK aV) 29, cE (mkAd (w37 ca a u b v) t aK aV) ca hp0 (.inr (0, 98, 11, 0))) H := at_ext (f := mF) (fun j hj => (mC_ok j hj).trans (congrArg row0 (Nat.zero_add j).symm)) (h 29 _ rfl)
set_option maxRecDepth 100000 in
set_option maxHeartbeats 1000000 in
theorem wp_30 {D : va_G} {ca : Nat → ClassId} {a b : Nat} {u v : Nat → Nat} {H : Heap} (h : va_P D vwCl (w37 ca a u b v) H) (t : List Nat) (aK aV : Nat → Nat) : va_at D vwCl ((mkAd (w37 ca a u b v) t aK aV) 30, cE (mkAd (w37 ca a u b v) t aK aV) ca hp0 (.inr (0, 98, 12, 0))) H := at_ext (f := fun _ => 0) (fun j hj => rfl) (h 30 _ rfl)
set_option maxRecDepth 100000 in
set_option maxHeartbeats 1000000 in
theorem wp_31 {D : va_G} {ca : Nat → ClassId} {a b : Nat} {u v : Nat → Nat} {H : Heap} (h : va_P D vwCl (w37 ca a u b v) H) (t : List Nat) (aK aV : Nat → Nat) : va_at D vwCl ((mkAd (w37 ca a u b v) t aK aV) 31, cE (mkAd (w37 ca a u b v) t aK aV) ca hp0 (.inr (0, 98, 13, 0))) H := at_ext (f := fun _ => 0) (fun j hj => rfl) (h 31 _ rfl)
set_option maxRecDepth 100000 in
set_option maxHeartbeats 1000000 in
theorem wp_32 {D : va_G} {ca : Nat → ClassId} {a b : Nat} {u v : Nat → Nat} {H : Heap} (h : va_P D vwCl (w37 ca a u b v) H) (t : List Nat) (aK aV : Nat → Nat) : va_at D vwCl ((mkAd (w37 ca a u b v) t aK aV) 32, cE (mkAd (w37 ca a u b v) t aK aV) ca hp0 (.inr (0, 7, 15, 0))) H := at_ext (f := fun _ => 0) (fun j hj => rfl) (h 32 _ rfl)
set_option maxRecDepth 100000 in
set_option maxHeartbeats 1000000 in
theorem wp_33 {D : va_G} {ca : Nat → ClassId} {a b : Nat} {u v : Nat → Nat} {H : Heap} (h : va_P D vwCl (w37 ca a u b v) H) (t : List Nat) (aK aV : Nat → Nat) : va_at D vwCl ((mkAd (w37 ca a u b v) t aK aV) 33, cE (mkAd (w37 ca a u b v) t aK aV) ca hp0 (.inr (0, 4, 16, 0))) H := at_ext (f := fun _ => 0) (fun j hj => rfl) (h 33 _ rfl)
set_option maxRecDepth 100000 in
set_option maxHeartbeats 1000000 in
theorem wp_34 {D : va_G} {ca : Nat → ClassId} {a b : Nat} {u v : Nat → Nat} {H : Heap} (h : va_P D vwCl (w37 ca a u b v) H) (t : List Nat) (aK aV : Nat → Nat) : va_at D vwCl ((mkAd (w37 ca a u b v) t aK aV) 34, cE (mkAd (w37 ca a u b v) t aK aV) ca hp0 (.inr (0, 4, 16, 4))) H := at_ext (f := fun _ => 0) (fun j hj => rfl) (h 34 _ rfl)
set_option maxRecDepth 100000 in
set_option maxHeartbeats 1000000 in
theorem wp_35 {D : va_G} {ca : Nat → ClassId} {a b : Nat} {u v : Nat → Nat} {H : Heap} (h : va_P D vwCl (w37 ca a u b v) H) (t : List Nat) (aK aV : Nat → Nat) : va_at D vwCl ((mkAd (w37 ca a u b v) t aK aV) 35, cE (mkAd (w37 ca a u b v) t aK aV) ca hp0 (.inr (0, 160, 16, 8))) H := at_ext (f := fun _ => 0) (fun j hj => rfl) (h 35 _ rfl)
set_option maxRecDepth 100000 in
set_option maxHeartbeats 1000000 in
theorem wp_36 {D : va_G} {ca : Nat → ClassId} {a b : Nat} {u v : Nat → Nat} {H : Heap} (h : va_P D vwCl (w37 ca a u b v) H) (t : List Nat) (aK aV : Nat → Nat) : va_at D vwCl ((mkAd (w37 ca a u b v) t aK aV) 36, cE (mkAd (w37 ca a u b v) t aK aV) ca hp0 (.inr (0, 120, 14, 10))) H := at_ext (f := fun _ => 0) (fun j hj => rfl) (h 36 _ rfl)
theorem WP_0 {D : va_G} {ca : Nat → ClassId} {a b : Nat} {u v : Nat → Nat} {H : Heap} (h : va_P D vwCl (w37 ca a u b v) H) (t : List Nat) (aK aV : Nat → Nat) : WP D (mkAd (w37 ca a u b v) t aK aV) ca hp0 H := by
  apply WP.of
  intro i s hs
  match i, hs with
  | 0, hs => cases hs; exact wp_0 h t aK aV
  | 1, hs => cases hs; exact wp_1 h t aK aV
  | 2, hs => cases hs; exact wp_2 h t aK aV
  | 3, hs => cases hs; exact wp_3 h t aK aV
  | 4, hs => cases hs; exact wp_4 h t aK aV
  | 5, hs => cases hs; exact wp_5 h t aK aV
  | 6, hs => cases hs; exact wp_6 h t aK aV
  | 7, hs => cases hs; exact wp_7 h t aK aV
  | 8, hs => cases hs; exact wp_8 h t aK aV
  | 9, hs => cases hs; exact wp_9 h t aK aV
  | 10, hs => cases hs; exact wp_10 h t aK aV
  | 11, hs => cases hs; exact wp_11 h t aK aV
  | 12, hs => cases hs; exact wp_12 h t aK aV
  | 13, hs => cases hs; exact wp_13 h t aK aV
  | 14, hs => cases hs; exact wp_14 h t aK aV
  | 15, hs => cases hs; exact wp_15 h t aK aV
  | 16, hs => cases hs; exact wp_16 h t aK aV
  | 17, hs => cases hs; exact wp_17 h t aK aV
  | 18, hs => cases hs; exact wp_18 h t aK aV
  | 19, hs => cases hs; exact wp_19 h t aK aV
  | 20, hs => cases hs; exact wp_20 h t aK aV
  | 21, hs => cases hs; exact wp_21 h t aK aV
  | 22, hs => cases hs; exact wp_22 h t aK aV
  | 23, hs => cases hs; exact wp_23 h t aK aV
  | 24, hs => cases hs; exact wp_24 h t aK aV
  | 25, hs => cases hs; exact wp_25 h t aK aV
  | 26, hs => cases hs; exact wp_26 h t aK aV
  | 27, hs => cases hs; exact wp_27 h t aK aV
  | 28, hs => cases hs; exact wp_28 h t aK aV
  | 29, hs => cases hs; exact wp_29 h t aK aV
  | 30, hs => cases hs; exact wp_30 h t aK aV
  | 31, hs => cases hs; exact wp_31 h t aK aV
  | 32, hs => cases hs; exact wp_32 h t aK aV
  | 33, hs => cases hs; exact wp_33 h t aK aV
  | 34, hs => cases hs; exact wp_34 h t aK aV
  | 35, hs => cases hs; exact wp_35 h t aK aV
  | 36, hs => cases hs; exact wp_36 h t aK aV
  | i + 37, hs => exact absurd (shp_lt hs) (by omega)
