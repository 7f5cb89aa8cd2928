/-! THE STATE, in my words: h g k is the int in place k of group g.
Groups of the class: 0 imageKept; 1, 2, 3 the rows of inn, kept, trial (98 places: 0 day, 1 z, 2 dishes, 3 guests, 4 list, 10 dishes' facts, 58 guests' facts, 88 spots); 4 the tape (0 length, 1 token, 2 start, 3 behind, 4 value, 10 bytes); 5 findings; 6 sheets (0 bits, 4 lengths, 8 numbers).
Groups of the reference: 10 isKept; 11, 12, 13 its rows m, kept, was; 14 its tape (0 taped, 1 token, 2 begin, 3 at, 4 value, 5 bad, 10 bytes); 15 found; 16 sheets. -/
abbrev Hp : Type := Nat → Nat → Int32
def up (h : Hp) (g k : Nat) (v : Int32) : Hp := fun a => if a = g then upd (h a) k v else h a
/-- of a cell's field: a reference to a cell, or the int in a place of a group -/
abbrev Zf : Type := Nat ⊕ (Nat × Nat)
/-- a cell: an object (number of its class, fields) or an array (kind 0 int, 1 byte, 2 sheets; length; group; its first place there) -/
abbrev Zs : Type := (Nat × List Zf) ⊕ (Nat × Nat × Nat × Nat)
def shp : List Zs := [
  .inl (3, [.inl 1, .inl 6, .inl 11, .inl 16, .inl 18, .inl 27, .inr (0, 0)]),
  .inl (0, [.inl 2, .inl 3, .inl 4, .inl 5, .inr (1, 2), .inr (1, 3), .inr (1, 0), .inr (1, 1)]), .inr (0, 6, 1, 4), .inr (0, 48, 1, 10), .inr (0, 30, 1, 58), .inr (0, 10, 1, 88),
  .inl (0, [.inl 7, .inl 8, .inl 9, .inl 10, .inr (2, 2), .inr (2, 3), .inr (2, 0), .inr (2, 1)]), .inr (0, 6, 2, 4), .inr (0, 48, 2, 10), .inr (0, 30, 2, 58), .inr (0, 10, 2, 88),
  .inl (0, [.inl 12, .inl 13, .inl 14, .inl 15, .inr (3, 2), .inr (3, 3), .inr (3, 0), .inr (3, 1)]), .inr (0, 6, 3, 4), .inr (0, 48, 3, 10), .inr (0, 30, 3, 58), .inr (0, 10, 3, 88),
  .inl (2, [.inl 17, .inr (4, 0), .inr (4, 1), .inr (4, 2), .inr (4, 3), .inr (4, 4)]), .inr (1, 120, 4, 10),
  .inr (2, 4, 0, 100),
  .inl (1, [.inl 20, .inr (6, 0), .inr (6, 4)]), .inr (0, 40, 6, 8),
  .inl (1, [.inl 22, .inr (6, 1), .inr (6, 5)]), .inr (0, 40, 6, 48),
  .inl (1, [.inl 24, .inr (6, 2), .inr (6, 6)]), .inr (0, 40, 6, 88),
  .inl (1, [.inl 26, .inr (6, 3), .inr (6, 7)]), .inr (0, 40, 6, 128),
  .inr (0, 7, 5, 0),
  .inl (4, [.inl 29, .inl 30, .inl 31, .inr (10, 0), .inl 32, .inl 33, .inl 34, .inl 35, .inl 36, .inr (14, 0), .inr (14, 1), .inr (14, 2), .inr (14, 3), .inr (14, 4), .inr (14, 5)]),
  .inr (0, 98, 11, 0), .inr (0, 98, 12, 0), .inr (0, 98, 13, 0), .inr (0, 7, 15, 0), .inr (0, 4, 16, 0), .inr (0, 4, 16, 4), .inr (0, 160, 16, 8), .inr (0, 120, 14, 10)]
/-- which places a cell holds: group, first, how many -/
def occF : List Zf → List (Nat × Nat × Nat)
  | [] => []
  | .inl _ :: r => occF r
  | .inr (g, k) :: r => (g, k, 1) :: occF r
def occ : Zs → List (Nat × Nat × Nat)
  | .inl (_, fs) => occF fs
  | .inr (t, n, g, o) => if t = 2 then [] else [(g, o, n)]
def inP (L : List (Nat × Nat × Nat)) (g k : Nat) : Prop := ∃ q ∈ L, q.1 = g ∧ q.2.1 ≤ k ∧ k < q.2.1 + q.2.2
def djB (L M : List (Nat × Nat × Nat)) : Bool := L.all fun a => M.all fun b => !(a.1 == b.1) || Nat.ble (a.2.1 + a.2.2) b.2.1 || Nat.ble (b.2.1 + b.2.2) a.2.1
theorem djB_ok {L M : List (Nat × Nat × Nat)} (h : djB L M = true) {g k : Nat} (h1 : inP L g k) : ¬ inP M g k := by
  rintro ⟨b, hb, b1, b2, b3⟩
  obtain ⟨a, ha, a1, a2, a3⟩ := h1
  have h2 := List.all_eq_true.mp (List.all_eq_true.mp h a ha) b hb
  simp only [Bool.or_eq_true, Bool.not_eq_true', beq_eq_false_iff_ne, ne_eq, Nat.ble_eq] at h2
  omega
def shpDj : Bool := (List.range 37).all fun i => (List.range 37).all fun j => i == j || djB (occ (shp.getD i (.inl (0, [])))) (occ (shp.getD j (.inl (0, []))))
theorem shpDj_ok : shpDj = true := by decide +kernel
theorem shp_lt {i : Nat} {s : Zs} (h : shp[i]? = some s) : i < 37 := by
  have h1 := (List.getElem?_eq_some_iff.mp h).1
  have h2 : shp.length = 37 := by decide +kernel
  omega
theorem shp_apart {i j : Nat} {s t : Zs} (hi : shp[i]? = some s) (hj : shp[j]? = some t) (hn : i ≠ j) {g k : Nat} (h : inP (occ s) g k) : ¬ inP (occ t) g k := by
  have h1 := List.all_eq_true.mp (List.all_eq_true.mp shpDj_ok i (List.mem_range.mpr (shp_lt hi))) j (List.mem_range.mpr (shp_lt hj))
  rw [Bool.or_eq_true] at h1
  rcases h1 with h1 | h1
  · exact absurd (beq_iff_eq.mp h1) hn
  · have e1 : shp.getD i (.inl (0, [])) = s := by rw [List.getD_eq_getElem?_getD, hi]; rfl
    have e2 : shp.getD j (.inl (0, [])) = t := by rw [List.getD_eq_getElem?_getD, hj]; rfl
    rw [e1, e2] at h1
    exact djB_ok h1 h
def cv (ad : Nat → Nat) : Value → Value
  | .ref i => .ref (ad i)
  | v => v
def fV (ad : Nat → Nat) (h : Hp) : Zf → Value
  | .inl j => .ref (ad j)
  | .inr (g, k) => .int (h g k)
def cE (ad : Nat → Nat) (ca : Nat → ClassId) (h : Hp) : Zs → va_E
  | .inl (ci, fs) => .inr (ci, fs.map (fV ad h))
  | .inr (t, n, g, o) => if t = 2 then .inl (ca t, n, .inr (.inr (.inr (.inr (fun j => some (ad (19 + 2 * j))))))) else .inl (ca t, n, .inl (fun j => h g (o + j)))
def wl (ad : Nat → Nat) (ca : Nat → ClassId) (h : Hp) : va_W := shp.mapIdx fun i s => (ad i, cE ad ca h s)
theorem wl_at {ad : Nat → Nat} {ca : Nat → ClassId} {h : Hp} {i : Nat} {s : Zs} (hi : shp[i]? = some s) : (wl ad ca h)[i]? = some (ad i, cE ad ca h s) := by
  unfold wl
  rw [List.getElem?_mapIdx, hi]
  rfl
theorem wl_of {ad : Nat → Nat} {ca : Nat → ClassId} {h : Hp} {i : Nat} {q : Nat × va_E} (hi : (wl ad ca h)[i]? = some q) : ∃ s, shp[i]? = some s ∧ q = (ad i, cE ad ca h s) := by
  unfold wl at hi
  rw [List.getElem?_mapIdx] at hi
  cases hs : shp[i]? with
  | none => rw [hs] at hi; cases hi
  | some s => rw [hs] at hi; exact ⟨s, rfl, (Option.some.inj hi).symm⟩
/-- two states agree on a cell -/
def agr (s : Zs) (h1 h2 : Hp) : Prop := ∀ g k, inP (occ s) g k → h1 g k = h2 g k
theorem fV_agr {ad : Nat → Nat} {h1 h2 : Hp} : ∀ (fs : List Zf), (∀ g k, inP (occF fs) g k → h1 g k = h2 g k) → fs.map (fV ad h1) = fs.map (fV ad h2)
  | [], _ => rfl
  | .inl j :: r, h => by
    rw [List.map_cons, List.map_cons, fV_agr r (fun g k q => h g k q)]
    rfl
  | .inr (g, k) :: r, h => by
    have e1 : h1 g k = h2 g k := h g k ⟨(g, k, 1), List.mem_cons_self, rfl, Nat.le_refl _, Nat.lt_succ_self _⟩
    rw [List.map_cons, List.map_cons, fV_agr r (fun g' k' ⟨q, a, b⟩ => h g' k' ⟨q, List.mem_cons_of_mem _ a, b⟩)]
    show Value.int (h1 g k) :: _ = Value.int (h2 g k) :: _
    rw [e1]
theorem arrV_ext (cI : ClassId) {N : Nat} {f g : Nat → Value} (h : ∀ j, j < N → f j = g j) : arrV cI N f = arrV cI N g := by
  unfold arrV
  congr 1
  apply Array.ext
  · simp
  · intro i h1 h2
    have h3 : i < N := by simpa using h1
    simp [h i h3]
theorem at_agr {D : va_G} {ad : Nat → Nat} {ca : Nat → ClassId} {a : Nat} {H : Heap} {h1 h2 : Hp} {s : Zs} (hg : agr s h1 h2) (hv : va_at D vwCl (a, cE ad ca h1 s) H) : va_at D vwCl (a, cE ad ca h2 s) H := by
  match s, hg, hv with
  | .inl (ci, fs), hg, hv =>
    have e : cE ad ca h1 (.inl (ci, fs)) = cE ad ca h2 (.inl (ci, fs)) := by
      show (Sum.inr (ci, fs.map (fV ad h1)) : va_E) = Sum.inr (ci, fs.map (fV ad h2))
      rw [fV_agr fs hg]
    rw [← e]; exact hv
  | .inr (t, n, g, o), hg, hv =>
    by_cases ht : t = 2
    · have e : cE ad ca h1 (.inr (t, n, g, o)) = cE ad ca h2 (.inr (t, n, g, o)) := by simp [cE, ht]
      rw [← e]; exact hv
    · have e1 : ∀ h : Hp, cE ad ca h (.inr (t, n, g, o)) = .inl (ca t, n, .inl (fun j => h g (o + j))) := fun h => by simp [cE, ht]
      rw [e1] at hv ⊢
      show H[a]? = some (vp_cell (ca t) (n, .inl (fun j => h2 g (o + j))))
      rw [vp_cell_i, ← arrV_ext (ca t) (f := fun j => .int (h1 g (o + j))) (fun j hj => by
        show Value.int _ = Value.int _
        rw [hg g (o + j) ⟨(g, o, n), by simp [occ, ht], rfl, Nat.le_add_right _ _, Nat.add_lt_add_left hj _⟩])]
      exact hv
def WP (D : va_G) (ad : Nat → Nat) (ca : Nat → ClassId) (h : Hp) (H : Heap) : Prop := va_P D vwCl (wl ad ca h) H
theorem WP.of {D : va_G} {ad : Nat → Nat} {ca : Nat → ClassId} {h : Hp} {H : Heap} (k : ∀ i s, shp[i]? = some s → va_at D vwCl (ad i, cE ad ca h s) H) : WP D ad ca h H := by
  intro i q hq
  obtain ⟨s, h1, rfl⟩ := wl_of hq
  exact k i s h1
theorem WP.at {D : va_G} {ad : Nat → Nat} {ca : Nat → ClassId} {h : Hp} {H : Heap} (w : WP D ad ca h H) {i : Nat} {s : Zs} (hi : shp[i]? = some s) : va_at D vwCl (ad i, cE ad ca h s) H := w i _ (wl_at hi)
/-- states that agree on every cell -/
def heq (h1 h2 : Hp) : Prop := ∀ (i : Nat) (s : Zs), shp[i]? = some s → agr s h1 h2
theorem WP.heq {D : va_G} {ad : Nat → Nat} {ca : Nat → ClassId} {h1 h2 : Hp} {H : Heap} (e : heq h1 h2) (w : WP D ad ca h1 H) : WP D ad ca h2 H := WP.of fun i s hi => at_agr (e i s hi) (w.at hi)
theorem up_s (h : Hp) (g k : Nat) (v : Int32) : up h g k v g k = v := by simp [up, upd]
theorem up_n (h : Hp) {g k a b : Nat} (v : Int32) (n : ¬ (a = g ∧ b = k)) : up h g k v a b = h a b := by
  unfold up
  by_cases e : a = g
  · rw [if_pos e]
    unfold upd
    exact if_neg (fun e2 => n ⟨e, e2⟩)
  · rw [if_neg e]
/-- one cell was written: the world of the new state -/
theorem WP.upd {D : va_G} {ad : Nat → Nat} {ca : Nat → ClassId} {h : Hp} {H1 : Heap} {i : Nat} {s : Zs} {e : va_E} {h' : Hp} (hi : shp[i]? = some s) (w : va_P D vwCl ((wl ad ca h).set i (ad i, e)) H1) (hs : va_at D vwCl (ad i, e) H1 → va_at D vwCl (ad i, cE ad ca h' s) H1) (ho : ∀ g k, ¬ inP (occ s) g k → h' g k = h g k) : WP D ad ca h' H1 := by
  apply WP.of
  intro j t hj
  by_cases hij : i = j
  · subst hij
    have e1 : s = t := Option.some.inj (hi.symm.trans hj)
    subst e1
    refine hs (w i _ ?_)
    have hl : i < (wl ad ca h).length := (List.getElem?_eq_some_iff.mp (wl_at (ad := ad) (ca := ca) (h := h) hi)).1
    rw [List.getElem?_set_self hl]
  · have h1 : ((wl ad ca h).set i (ad i, e))[j]? = some (ad j, cE ad ca h t) := by
      rw [List.getElem?_set_ne hij]
      exact wl_at hj
    refine at_agr (h1 := h) (fun g k q => ?_) (w j _ h1)
    exact (ho g k (shp_apart hj hi (Ne.symm hij) q)).symm
def apD (A : Nat → Prop) (ad : Nat → Nat) : Prop := (∀ i j, i < 37 → j < 37 → ad i = ad j → i = j) ∧ ∀ i, i < 37 → A (ad i)
theorem apD.D {A : Nat → Prop} {ad : Nat → Nat} (a : apD A ad) (ca : Nat → ClassId) (h : Hp) : va_D A (wl ad ca h) := by
  refine ⟨fun i j p q hp hq e => ?_, fun i q hq => ?_⟩
  · obtain ⟨s, h1, rfl⟩ := wl_of hp
    obtain ⟨t, h2, rfl⟩ := wl_of hq
    exact a.1 i j (shp_lt h1) (shp_lt h2) e
  · obtain ⟨s, h1, rfl⟩ := wl_of hq
    exact a.2 i (shp_lt h1)
/-! what is only read: static arrays, the script, texts -/
abbrev kndAbove : List Int32 := [-1, 0, 0, 2, 3, 0, 1]
abbrev dshTops : List Int32 := [6, 11, 11, 99, 9999, 1]
abbrev gstTops : List Int32 := [99, 11, 99999, 4095, 9999]
abbrev nmes : List Int32 := [100, 105, 115, 104, 0, 0, 0, 112, 105, 101, 0, 0, 0, 0, 114, 111, 97, 115, 116, 0, 0, 106, 111, 105, 110, 116, 0, 0, 116, 114, 105, 102, 108, 101, 0, 109, 117, 116, 116, 111, 110, 0, 112, 101, 97, 115, 0, 0, 0, 112, 114, 105, 99, 101, 0, 0, 115, 101, 114, 118, 101, 100, 0, 111, 102, 102, 0, 0, 0, 0, 103, 117, 101, 115, 116, 0, 0, 102, 111, 114, 0, 0, 0, 0, 109, 101, 97, 108, 0, 0, 0]
def sArr (C n : String) (l : List Int32) (t : Nat) (A : Nat → Prop) (U : State) (H : Heap) : Prop := va_Z C n "[I" (.ref t) A U H ∧ va_T .int t l.length (fun j => .int (l.getD j 0)) A U H
/-- the texts, in order: text, its place in the pool -/
abbrev txs : List (String × Nat) := [("guest", 33), ("for", 84), ("meal", 42), ("pie", 107), ("roast", 109), ("joint", 111), ("trifle", 113), ("mutton", 115), ("peas", 117), ("dish", 119), ("price", 64), ("served", 69), ("off", 79)]
abbrev txLen : List Nat := [5, 3, 4, 3, 5, 5, 6, 6, 4, 4, 5, 6, 3]
abbrev txByt : List (List Int32) := [[103, 117, 101, 115, 116], [102, 111, 114], [109, 101, 97, 108], [112, 105, 101], [114, 111, 97, 115, 116], [106, 111, 105, 110, 116], [116, 114, 105, 102, 108, 101], [109, 117, 116, 116, 111, 110], [112, 101, 97, 115], [100, 105, 115, 104], [112, 114, 105, 99, 101], [115, 101, 114, 118, 101, 100], [111, 102, 102]]
abbrev Sc : Type := (Nat → Int32) × Nat
def Ro (X : Sc) (ad : Nat → Nat) (A : Nat → Prop) (U : State) (H : Heap) : Prop :=
  sArr "ForkInn$Inn" "KIND_ABOVE" kndAbove (ad 100) A U H ∧ sArr "ForkInn$Inn" "DISH_TOPS" dshTops (ad 101) A U H ∧ sArr "ForkInn$Inn" "GUEST_TOPS" gstTops (ad 102) A U H ∧ sArr "ForkInnModel" "NAMES" nmes (ad 103) A U H ∧
  (va_X (ad 104) X.2 X.1 U H ∧ ad 104 < H.size ∧ ¬ A (ad 104)) ∧
  (∀ i, i < 13 → vk_R "ForkInn$Tape" (txs.getD i ("", 0)).2 (txs.getD i ("", 0)).1 (ad (110 + i)) U) ∧ vk_S 13 txLen txByt (fun i => ad (110 + i)) (fun i => ad (130 + i)) A U H ∧
  va_Z "java/lang/String" "COMPACT_STRINGS" "Z" (.int 1) A U H ∧ va_Zq "jdk/internal/util/Preconditions" "SIOOBE_FORMATTER" "Ljava/util/function/BiFunction;" A U H
theorem sArr.go {C n : String} {l : List Int32} {t : Nat} {A : Nat → Prop} {s U : State} {H H1 : Heap} (hvm : s.vm.Alike U.vm) (hk : ∀ a : Nat, a < H.size → ¬ A a → H1[a]? = H[a]?) (h : sArr C n l t A s H) : sArr C n l t A U H1 := ⟨(h.1.moved hvm).kept hk, (h.2.moved hvm).kept hk⟩
theorem Ro.go {X : Sc} {ad : Nat → Nat} {A : Nat → Prop} {s U : State} {H : Heap} {locs : List Loc} (h : Ro X ad A s s.heap) (hS : va_S A s.heap H locs) (hW : s.WarmedH U.vm) (hU : U.heap = H) : Ro X ad A U U.heap := by
  rw [hU]
  have hv := hW.alike
  have hk := hS.2.1
  obtain ⟨a1, a2, a3, a4, ⟨x1, x2, x3⟩, t1, t2, z1, z2⟩ := h
  refine ⟨a1.go hv hk, a2.go hv hk, a3.go hv hk, a4.go hv hk, ⟨(x1.moved hv).kept (hk _ x2 x3), Nat.lt_of_lt_of_le x2 hS.1, x3⟩, fun i hi => (t1 i hi).warm hW, (t2.moved hv).kept hk, (z1.moved hv).kept hk, ?_⟩
  rcases z2 with z | ⟨t, z⟩
  · exact Or.inl ((z.moved hv).kept hk)
  · exact Or.inr ⟨t, (z.moved hv).kept hk⟩
theorem Ro.call {X : Sc} {ad : Nat → Nat} {A : Nat → Prop} {U : State} (g : JFrame) (mk : MethodId) (a : Array Value) (h : Ro X ad A U U.heap) : Ro X ad A (U.calling g mk a) (U.calling g mk a).heap := by
  have hv : U.vm.Alike (U.calling g mk a).vm := Vm.Alike.refl U.vm
  have hk : ∀ q : Nat, q < U.heap.size → ¬ A q → (U.calling g mk a).heap[q]? = U.heap[q]? := fun _ _ _ => rfl
  obtain ⟨a1, a2, a3, a4, ⟨x1, x2, x3⟩, t1, t2, z1, z2⟩ := h
  refine ⟨a1.go hv hk, a2.go hv hk, a3.go hv hk, a4.go hv hk, ⟨(x1.moved hv).kept rfl, x2, x3⟩, fun i hi => (t1 i hi).same rfl, (t2.moved hv).kept hk, (z1.moved hv).kept hk, ?_⟩
  rcases z2 with z | ⟨t, z⟩
  · exact Or.inl ((z.moved hv).kept hk)
  · exact Or.inr ⟨t, (z.moved hv).kept hk⟩
