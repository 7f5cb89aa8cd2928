/-! BETWEEN THE TWO -/
def okO (P : Rw → Prop) : Oc → Prop
  | .inl _ => True
  | .inr q => P q.2
theorem okO_m {P : Rw → Prop} {m : Rw} (h : P m) {b : Bool} {v : Int32} {k : Nat} : okO P (if b then .inr (v, m) else .inl k) := by
  cases b
  · exact trivial
  · exact h
theorem okO_if {P : Rw → Prop} {Q : Prop} [Decidable Q] {a b : Oc} (h1 : Q → okO P a) (h2 : ¬ Q → okO P b) : okO P (if Q then a else b) := by
  by_cases z : Q
  · rw [if_pos z]; exact h1 z
  · rw [if_neg z]; exact h2 z
theorem okO_F {P : Rw → Prop} {m : Rw} (h : P m) (o : Option Nat) : okO P (oF m o) := by
  cases o
  · exact trivial
  · exact h
theorem okO_S {P : Rw → Prop} {sh : Rw} {s : Int32} {f : Oc} (h : inB s 0 3 = true → okO P f) : okO P (onS sh s f) := by
  unfold onS
  exact okO_if (fun z => okO_if (fun _ => trivial) (fun _ => h z)) (fun _ => trivial)
theorem and_l {a b : Bool} (h : (a && b) = true) : a = true := by cases a <;> simp_all
theorem and_r {a b : Bool} (h : (a && b) = true) : b = true := by cases a <;> simp_all
section OKI
variable {m : Rw}
theorem ok_list {i g d : Int32} (h : In m) : okO In (f_list m i g d) := by
  unfold f_list
  refine okO_if (fun z => ?_) (fun _ => trivial)
  obtain ⟨a, a1, a2, rfl⟩ := inB_of 5 (by decide) (and_l (and_l z))
  obtain ⟨b, b1, b2, rfl⟩ := inB_of 5 (by decide) (and_r (and_l z))
  obtain ⟨e, e1, e2, rfl⟩ := inB_of 7 (by decide) (and_r z)
  rw [a2]
  exact In_meal h (by omega) (by omega) (by omega)
theorem ok_listed {i : Int32} (h : In m) : okO In (f_listed m i) := okO_if (fun _ => h) (fun _ => trivial)
theorem ok_dish {k a b : Int32} (h : In m) : okO In (f_dish m k a b) := by
  unfold f_dish
  refine okO_if (fun z => okO_if (fun _ => trivial) (fun n8 => ?_)) (fun _ => trivial)
  obtain ⟨x, a1, a2, rfl⟩ := inB_of 6 (by decide) (and_l (and_l z))
  obtain ⟨y, b1, b2, rfl⟩ := inB_of 11 (by decide) (and_r (and_l z))
  obtain ⟨e, e1, e2, rfl⟩ := inB_of 11 (by decide) (and_r z)
  have := h.nD.1
  exact In_newD h (by omega) a1 b1 e1
theorem ok_guest {b : Int32} (h : In m) : okO In (f_guest m b) := by
  unfold f_guest
  refine okO_if (fun z => okO_if (fun _ => trivial) (fun n8 => ?_)) (fun _ => trivial)
  obtain ⟨x, a1, a2, rfl⟩ := inB_of 99 (by decide) z
  have := h.nG.1
  exact In_newG2 (t := 0) h (by omega) a1 (by omega)
theorem ok_of {d k : Int32} (h : In m) : okO In (f_of m d k) := okO_if (fun _ => h) (fun _ => trivial)
theorem ok_ofGuest {d k : Int32} (h : In m) : okO In (f_ofGuest m d k) := okO_if (fun _ => h) (fun _ => trivial)
theorem dTop_ok : ∀ w, w < 6 → dshTops.getD w 0 = nI (dTop w) ∧ dTop w < 2 ^ 31 := by decide
theorem gTop_ok : ∀ w, w < 5 → gstTops.getD w 0 = nI (gTop w) ∧ gTop w < 2 ^ 31 := by decide
theorem ok_change {d k v : Int32} (h : In m) : okO In (f_change m d k v) := by
  unfold f_change
  refine okO_if (fun z => ?_) (fun _ => trivial)
  obtain ⟨x, a1, a3, rfl⟩ := isD_of h (and_l (and_l z))
  obtain ⟨y, b1, b2, rfl⟩ := inB_of 5 (by decide) (and_r (and_l z))
  have z2 := and_r z
  rw [b2, (dTop_ok y (by omega)).1] at z2
  obtain ⟨e, e1, e2, rfl⟩ := inB_of _ (dTop_ok y (by omega)).2 z2
  rw [b2, show tn (nI x) = x from nI_clamp (by omega)]
  exact In_pD h a3 (by omega) e1
theorem ok_seat {d k v : Int32} (h : In m) : okO In (f_seat m d k v) := by
  unfold f_seat
  refine okO_if (fun z => ?_) (fun _ => trivial)
  obtain ⟨x, a1, a3, rfl⟩ := isG_of h (and_l (and_l z))
  obtain ⟨y, b1, b2, rfl⟩ := inB_of 4 (by decide) (and_r (and_l z))
  have z2 := and_r z
  rw [b2, (gTop_ok y (by omega)).1] at z2
  obtain ⟨e, e1, e2, rfl⟩ := inB_of _ (gTop_ok y (by omega)).2 z2
  rw [b2, show tn (nI x) = x from nI_clamp (by omega)]
  exact In_pG h a3 (by omega) e1
theorem ok_would {g d k : Int32} (h : In m) : okO In (f_would m g d k) := okO_if (fun _ => okO_if (fun _ => h) (fun _ => okO_if (fun _ => h) (fun _ => okO_if (fun _ => h) (fun _ => okO_if (fun _ => h) (fun _ => trivial))))) (fun _ => trivial)
theorem ok_eat {g d : Int32} (h : In m) : okO In (f_eat m g d) := by
  unfold f_eat
  refine okO_if (fun z => okO_if (fun _ => trivial) (fun _ => ?_)) (fun _ => trivial)
  obtain ⟨x, a1, a3, rfl⟩ := isG_of h (and_l z)
  obtain ⟨y, b1, b3, rfl⟩ := isD_of h (and_r z)
  rw [show tn (nI x) = x from nI_clamp (by omega), show tn (nI y) = y from nI_clamp (by omega)]
  exact h.eat a3 b3
theorem ok_go {n : Int32} (h : In m) : okO In (f_go m n) := okO_if (fun _ => okO_if (fun _ => h.days _) (fun _ => trivial)) (fun _ => trivial)
theorem ok_coach {n : Int32} (h : In m) : okO In (f_coach m n) := okO_if (fun _ => okO_if (fun _ => In_coaN h _) (fun _ => trivial)) (fun _ => trivial)
theorem ok_now {k : Int32} (h : In m) : okO In (f_now m k) := okO_if (fun _ => h) (fun _ => okO_if (fun _ => h) (fun _ => okO_if (fun _ => h) (fun _ => okO_if (fun _ => h) (fun _ => okO_if (fun _ => h) (fun _ => okO_if (fun _ => h) (fun _ => okO_if (fun _ => h) (fun _ => okO_if (fun _ => h) (fun _ => trivial))))))))
theorem ok_count {t k : Int32} (h : In m) : okO In (f_count m t k) := okO_if (fun _ => h) (fun _ => okO_if (fun _ => h) (fun _ => okO_if (fun _ => h) (fun _ => okO_if (fun _ => h) (fun _ => okO_if (fun _ => h) (fun _ => okO_if (fun _ => h) (fun _ => okO_if (fun _ => h) (fun _ => okO_if (fun _ => h) (fun _ => trivial))))))))
theorem ok_as {s k : Int32} (h : In m) : okO In (f_as m s k) := okO_if (fun _ => okO_if (fun _ => okO_if (fun _ => h) (fun _ => trivial)) (fun _ => trivial)) (fun _ => trivial)
theorem ok_ahead {g k n : Int32} (h : In m) : okO In (f_ahead m g k n) := okO_if (fun _ => h) (fun _ => trivial)
theorem ok_served {d n : Int32} (h : In m) : okO In (f_served m d n) := okO_if (fun _ => h) (fun _ => trivial)
theorem ok_when {g t : Int32} (h : In m) : okO In (f_when m g t) := okO_if (fun _ => okO_F h _) (fun _ => trivial)
theorem ok_owes {g t : Int32} (h : In m) : okO In (f_owes m g t) := okO_if (fun _ => okO_F h _) (fun _ => trivial)
theorem ok_part {g t : Int32} (h : In m) : okO In (f_part m g t) := okO_if (fun _ => okO_F h _) (fun _ => trivial)
theorem ok_dishFor {g t : Int32} (h : In m) : okO In (f_dishFor m g t) := okO_if (fun _ => h) (fun _ => trivial)
theorem ok_kindFor {g t : Int32} (h : In m) : okO In (f_kindFor m g t) := okO_if (fun _ => h) (fun _ => trivial)
theorem ok_bentFor {g t n : Int32} (h : In m) : okO In (f_bentFor m g t n) := okO_if (fun _ => okO_F h _) (fun _ => trivial)
theorem ok_courses {g t : Int32} (h : In m) : okO In (f_courses m g t) := okO_if (fun _ => okO_if (fun _ => h) (fun _ => okO_F h _)) (fun _ => trivial)
theorem ok_strike {g t n : Int32} (h : In m) : okO In (f_strike m g t n) := okO_if (fun _ => okO_F h _) (fun _ => trivial)
theorem ok_fits {sh : Rw} {s g : Int32} (h : In m) : okO In (f_fits m sh s g) := okO_S (fun _ => okO_if (fun _ => h) (fun _ => trivial))
theorem ok_kinds {sh : Rw} {s d g : Int32} (h : In m) : okO In (f_kinds m sh s d g) := okO_S (fun _ => okO_if (fun _ => h) (fun _ => trivial))
theorem ok_judge {sh : Rw} {s : Int32} (h : In m) : okO In (f_judge m sh s) := okO_S (fun _ => h)
theorem fst1_none {p : Nat → Bool} : ∀ (n k : Nat), fst1 p k n = none → ∀ j, k ≤ j → j < k + n → p j = false
  | 0, k, _, j, h1, h2 => by omega
  | n + 1, k, h, j, h1, h2 => by
    rw [fst1] at h
    by_cases z : p k = true
    · rw [if_pos z] at h; cases h
    · rw [if_neg z] at h
      by_cases e : j = k
      · rw [e]; cases q : p k with
        | true => exact absurd q z
        | false => rfl
      · exact fst1_none n (k + 1) h j (by omega) (by omega)
theorem fst1_some {p : Nat → Bool} : ∀ (n k x : Nat), fst1 p k n = some x → (k ≤ x ∧ x < k + n) ∧ ∀ j, k ≤ j → j < x → p j = false
  | 0, k, x, h => by cases h
  | n + 1, k, x, h => by
    rw [fst1] at h
    by_cases z : p k = true
    · rw [if_pos z] at h
      cases h
      exact ⟨⟨Nat.le_refl _, by omega⟩, fun j h1 h2 => by omega⟩
    · rw [if_neg z] at h
      obtain ⟨a, b⟩ := fst1_some n (k + 1) x h
      refine ⟨⟨by omega, by omega⟩, fun j h1 h2 => ?_⟩
      by_cases e : j = k
      · rw [e]; cases q : p k with
        | true => exact absurd q z
        | false => rfl
      · exact b j (by omega) h2
theorem stp_ok {p : Nat → Bool} {n : Nat} : stp p n ≤ n ∧ ∀ j, j < stp p n → p j = false := by
  unfold stp
  cases e : fst1 p 0 n with
  | none => exact ⟨Nat.le_refl _, fun j (hj : j < n) => fst1_none n 0 e j (by omega) (by omega)⟩
  | some x =>
    obtain ⟨a, b⟩ := fst1_some n 0 x e
    exact ⟨by show x ≤ n; omega, fun j hj => b j (by omega) hj⟩
theorem In_ldR {sh : Rw} {s : Nat} (h : In m) : ∀ k, k ≤ 6 → (∀ j, j < k → p_load sh s j = false) → In (ldR m sh s k)
  | 0, _, _ => h
  | k + 1, hk, hp => by
    have h1 := In_ldR (sh := sh) (s := s) h k (by omega) (fun j hj => hp j (by omega))
    have h2 := hp k (by omega)
    unfold p_load at h2
    have h3 : inB (sN sh s k) 0 99 = true := by cases q : inB (sN sh s k) 0 99 with
      | true => rfl
      | false => rw [q] at h2; cases h2
    obtain ⟨x, a1, a2, e⟩ := inB_of 99 (by decide) h3
    rw [ldR, e]
    exact In_pG h1 (by omega) (by decide) a1
theorem ok_load {sh : Rw} {s : Int32} (h : In m) : okO In (f_load m sh s) := by
  refine okO_S (fun _ => ?_)
  have a := stp_ok (p := p_load sh (tn s)) (n := mn2 (nL2 sh (tn s)) (nG m))
  have b := h.nG.1
  have c : mn2 (nL2 sh (tn s)) (nG m) ≤ nG m := by unfold mn2; split <;> omega
  exact In_ldR h _ (by omega) a.2
theorem ok_hold {s d : Int32} (h : In m) : okO In (f_hold m s d) := by
  unfold f_hold
  refine okO_if (fun z => ?_) (fun _ => trivial)
  obtain ⟨x, a1, a2, rfl⟩ := inB_of 9 (by decide) (and_l z)
  have z2 := and_r z
  rw [a2]
  show In (upd m (88 + x) d)
  have e : nD (upd m (88 + x) d) = nD m := by show ((upd m (88 + x) d) 2).toNatClampNeg = _; rw [upd_n _ _ (by omega)]; rfl
  refine ⟨fun j hj j1 => ?_, fun s hs => ?_⟩
  · rw [upd_n _ _ (by omega)]; exact h.1 j hj j1
  · rw [e]
    by_cases q : s = x
    · subst q
      rw [upd_s]
      rw [Bool.or_eq_true] at z2
      rcases z2 with z2 | z2
      · exact Or.inl (of_decide_eq_true z2)
      · obtain ⟨y, y1, y2, y3⟩ := isD_of h z2
        exact Or.inr ⟨y, y1, y3⟩
    · rw [upd_n _ _ (by omega)]; exact h.2 s hs
end OKI
theorem ok_sheet {sh : Rw} (hS : InS sh) {s b n : Int32} : okO InS (f_sheet sh s b n) := by
  unfold f_sheet
  refine okO_if (fun z => okO_if (fun n0 => okO_if (fun n40 => ?_) (fun _ => trivial)) (fun _ => trivial)) (fun _ => trivial)
  obtain ⟨x, a1, a2, rfl⟩ := inB_of 3 (by decide) (and_l z)
  have zb := and_r z
  have n0' : ¬ n < 0 := Int32.not_lt.mpr n0
  obtain ⟨y, hy, rfl⟩ := nI_of n0'
  have hy40 : y ≤ 40 := (nI_leI (a := y) (b := 40) hy (by decide)).mp n40
  have hb : b = 0 ∨ b = 8 ∨ b = 16 ∨ b = 32 := by
    rw [Bool.or_eq_true, Bool.or_eq_true, Bool.or_eq_true, decide_eq_true_eq, decide_eq_true_eq, decide_eq_true_eq, decide_eq_true_eq] at zb
    rcases zb with ((q | q) | q) | q
    · exact Or.inl q
    · exact Or.inr (Or.inl q)
    · exact Or.inr (Or.inr (Or.inl q))
    · exact Or.inr (Or.inr (Or.inr q))
  rw [a2]
  show InS (filR sh x b (if b = 0 then 0 else nI y) 40)
  have el : ∃ w, w ≤ 40 ∧ (if b = 0 then 0 else nI y) = nI w := by
    by_cases q : b = 0
    · exact ⟨0, by omega, by rw [if_pos q]; rfl⟩
    · exact ⟨y, hy40, if_neg q⟩
  obtain ⟨w, hw, ew⟩ := el
  rw [ew]
  intro t ht
  have e1 : sB (filR sh x b (nI w) 40) t = if t = x then b else sB sh t := by
    unfold sB filR
    by_cases q : t = x
    · rw [if_pos q, if_pos q]
    · rw [if_neg q, if_neg q, if_neg (by omega), if_neg (by omega)]
  have e2 : sL (filR sh x b (nI w) 40) t = if t = x then nI w else sL sh t := by
    unfold sL filR
    by_cases q : t = x
    · rw [if_neg (by omega), if_pos (by omega), if_pos q]
    · rw [if_neg (by omega), if_neg (by omega), if_neg (by omega), if_neg q]
  have e3 : nL2 (filR sh x b (nI w) 40) t = if t = x then w else nL2 sh t := by
    unfold nL2
    rw [e2]
    by_cases q : t = x
    · rw [if_pos q, if_pos q]; exact nI_clamp (by omega)
    · rw [if_neg q, if_neg q]
  rw [e1, e2, e3]
  by_cases q : t = x
  · rw [if_pos q, if_pos q, if_pos q]; exact ⟨hb, hw, rfl⟩
  · rw [if_neg q, if_neg q, if_neg q]; exact hS t ht
theorem InS_hi {sh sh2 : Rw} (hS : InS sh) (e : ∀ k, k < 8 → sh2 k = sh k) : InS sh2 := by
  intro t ht
  have e1 : sB sh2 t = sB sh t := e t (by omega)
  have e2 : sL sh2 t = sL sh t := e (4 + t) (by omega)
  have e3 : nL2 sh2 t = nL2 sh t := by unfold nL2; rw [e2]
  rw [e1, e2, e3]
  exact hS t ht
theorem ok_write {sh : Rw} (hS : InS sh) {s i v : Int32} : okO InS (f_write sh s i v) := by
  refine okO_S (fun _ => okO_if (fun _ => ?_) (fun _ => trivial))
  exact InS_hi hS (fun k hk => upd_n _ _ (by omega))
theorem ok_copy {sh : Rw} (hS : InS sh) {s a t b n : Int32} : okO InS (f_copy sh s a t b n) := by
  unfold f_copy
  refine okO_if (fun z => okO_if (fun _ => trivial) (fun _ => okO_if (fun _ => okO_if (fun _ => ?_) (fun _ => trivial)) (fun _ => trivial))) (fun _ => trivial)
  refine InS_hi hS (fun k hk => ?_)
  show (if 8 + 40 * tn t + tn b ≤ k ∧ k < 8 + 40 * tn t + tn b + tn n then _ else sh k) = sh k
  rw [if_neg (by omega)]
/-! the tapes -/
theorem bt_n (z : Int32) : ((z.toBitVec.toNat % 256 : Nat) : Int) = z.toInt % 256 := by
  have e : z.toInt = z.toBitVec.toInt := rfl
  rw [e, BitVec.toInt_eq_toNat_cond]
  have : z.toBitVec.toNat < 2 ^ 32 := z.toBitVec.isLt
  split <;> omega
theorem and255 (z : Int32) : z &&& 255 = nI (z.toInt % 256).toNat := by
  rw [pk_and z (m := 255) 8 (by decide), ← bt_n]
  rfl
theorem i8_t (x : Int32) : x.toInt8.toInt32.toInt = x.toInt.bmod 256 := by
  rw [Int8.toInt_toInt32, Int32.toInt_toInt8]
theorem byte_and (x : Int32) : x.toInt8.toInt32 &&& 255 = x &&& 255 := by
  rw [and255, and255, i8_t]
  have : x.toInt.bmod 256 % 256 = x.toInt % 256 := by
    simp only [Int.bmod]
    split <;> omega
  rw [this]
theorem byte_rng {x : Int32} (h : x.toInt8.toInt32 = x) : -128 ≤ x.toInt ∧ x.toInt < 128 := by
  rw [← h, i8_t]
  simp only [Int.bmod]
  split <;> omega
theorem byte_ch {x : Int32} (h : x.toInt8.toInt32 = x) : chM (x &&& 255) = chC x := by
  have r := byte_rng h
  have e : (x &&& 255).toInt = x.toInt % 256 := by
    have k : (x.toInt % 256).toNat < 2 ^ 31 := by omega
    rw [and255, nI_toInt k]
    omega
  rcases chM_t (x &&& 255) with ⟨a, b⟩ | ⟨a, b⟩ <;> rcases chC_t x with ⟨c, d⟩ | ⟨c, d⟩ <;> rw [b, d] <;> first | rfl | omega
def TpR (t u : Rw) : Prop := InT t ∧ u 0 = t 0 ∧ ∀ j, u (10 + j) = t (10 + j) &&& 255 ∧ (t (10 + j)).toInt8.toInt32 = t (10 + j)
theorem TpR.T {t u : Rw} (h : TpR t u) : InT u ∧ tpL u = tpL t := by
  have e : tpL u = tpL t := by unfold tpL; rw [h.2.1]
  exact ⟨⟨by rw [e]; exact h.1.1, by rw [e, h.2.1]; exact h.1.2⟩, e⟩
theorem TpR.c {t u : Rw} (h : TpR t u) : cM u = cC t := by
  funext j
  show chM (u (10 + j)) = chC (t (10 + j))
  rw [(h.2.2 j).1]
  exact byte_ch (h.2.2 j).2
theorem TpR_z {t u t2 u2 : Rw} (h : TpR t u) (a : zT t t2) (b : zT u u2) : TpR t2 u2 := by
  have e : tpL t2 = 0 := by unfold tpL; rw [a.1]; rfl
  refine ⟨⟨by rw [e]; omega, by rw [e, a.1]; rfl⟩, by rw [a.1, b.1], fun j => ?_⟩
  rw [a.2 j, b.2 j]
  exact h.2.2 j
theorem app_b (t : Rw) (v : Int32) (j : Nat) : app t v (10 + j) = if j = tpL t then v else t (10 + j) := by
  unfold app
  rw [upd_n (a := 10 + j) _ _ (show 10 + j ≠ 0 by omega)]
  by_cases e : j = tpL t
  · rw [if_pos e, e, upd_s]
  · rw [if_neg e, upd_n _ _ (by omega)]
theorem TpR_app {t u : Rw} (h : TpR t u) (hl : tpL t < 120) (x : Int32) : TpR (app t x.toInt8.toInt32) (app u (x &&& 255)) := by
  have a := app_L h.1 x.toInt8.toInt32 hl
  have eu := h.T.2
  refine ⟨a.1, ?_, fun j => ?_⟩
  · unfold app
    rw [upd_s, upd_s, h.2.1]
  · rw [app_b, app_b, eu]
    by_cases e : j = tpL t
    · rw [if_pos e, if_pos e]
      exact ⟨(byte_and x).symm, i8_2 x⟩
    · rw [if_neg e, if_neg e]
      exact h.2.2 j
theorem TpR_feed (b : Int32) : ∀ (n : Nat) (t u : Rw), TpR t u → tpL t + n ≤ 120 → TpR (feedC b n t) (feedM b n u)
  | 0, t, u, h, _ => h
  | n + 1, t, u, h, hl => by
    rw [feedC, feedM]
    exact TpR_feed b n _ _ (TpR_app h (by omega) _) (by have := (app_L h.1 (b >>> (8 * nI n &&& 31)).toInt8.toInt32 (by omega)).2; omega)
/-! THE TWO STATES -/
def Rel (h : Hp) : Prop := In (h 1) ∧ h 11 = h 1 ∧ InS (h 6) ∧ h 16 = h 6 ∧ h 15 = h 5 ∧ TpR (h 4) (h 14) ∧ h 10 0 = h 0 0 ∧ (h 0 0 = 0 ∨ (In (h 2) ∧ h 12 = h 2))
section RELS
variable {h : Hp}
theorem Rel_A (R : Rel h) {F : Oc} (k : okO In F) : Rel (oM (oC h F) F) := by
  obtain ⟨a, b, c, d, e, t, f, g⟩ := R
  cases F with
  | inl w => exact ⟨a, b, c, d, by show inc (h 15) w = inc (h 5) w; rw [e], t, f, g⟩
  | inr q => exact ⟨k, rfl, c, d, e, t, f, g⟩
theorem Rel_B (R : Rel h) {F : Oc} (T : Rw) (k : okO In F) : Rel (hM (hQ h F T) F) := by
  obtain ⟨a, b, c, d, e, t, f, g⟩ := R
  cases F with
  | inl w => exact ⟨a, b, c, d, by show inc (h 15) w = inc (h 5) w; rw [e], t, f, g⟩
  | inr q => exact ⟨k, rfl, c, d, e, t, f, g⟩
theorem Rel_C (R : Rel h) {F : Oc} (k : okO InS F) : Rel (oG 16 15 (oG 6 5 h F) F) := by
  obtain ⟨a, b, c, d, e, t, f, g⟩ := R
  cases F with
  | inl w => exact ⟨a, b, c, d, by show inc (h 15) w = inc (h 5) w; rw [e], t, f, g⟩
  | inr q => exact ⟨a, b, k, rfl, e, t, f, g⟩
theorem Rel_D (R : Rel h) {F : Oc} (k : okO In F) : Rel (oG 11 15 (oG 1 5 h F) F) := by
  obtain ⟨a, b, c, d, e, t, f, g⟩ := R
  cases F with
  | inl w => exact ⟨a, b, c, d, by show inc (h 15) w = inc (h 5) w; rw [e], t, f, g⟩
  | inr q => exact ⟨k, rfl, c, d, e, t, f, g⟩
theorem Rel_S (R : Rel h) {F : Oc} : Rel (oG 15 15 (oG 5 5 h F) F) := by
  obtain ⟨a, b, c, d, e, t, f, g⟩ := R
  cases F with
  | inl w => exact ⟨a, b, c, d, by show inc (h 15) w = inc (h 5) w; rw [e], t, f, g⟩
  | inr q => exact ⟨a, b, c, d, rfl, t, f, g⟩
theorem Rel_O (R : Rel h) {F : Option Int64} (T : Rw) : Rel (hOM (hO h T F) F) := by
  obtain ⟨a, b, c, d, e, t, f, g⟩ := R
  cases F with
  | none => exact ⟨a, b, c, d, by show inc (h 15) 0 = inc (h 5) 0; rw [e], t, f, g⟩
  | some q => exact ⟨a, b, c, d, e, t, f, g⟩
theorem feed_same (R : Rel h) {b n : Int32} : oV (fM_feed (h 14) b n) = oV (f_feed (h 4) b n) ∧ Rel (oG 14 15 (oG 4 5 h (f_feed (h 4) b n)) (fM_feed (h 14) b n)) := by
  obtain ⟨a, b', c, d, e, t, f, g⟩ := R
  unfold f_feed fM_feed
  rw [t.2.1]
  by_cases z : inB n 1 4 = true
  · rw [if_pos z, if_pos z]
    by_cases y : h 4 0 + n ≤ 120
    · rw [if_pos y, if_pos y]
      obtain ⟨j, j1, j2, j3, rfl⟩ := inB_of1 4 (by decide) z
      have l : tpL (h 4) + j ≤ 120 := by
        rw [t.1.2, nI_add] at y
        exact (nI_leI (a := tpL (h 4) + j) (b := 120) (by have := t.1.1; omega) (by decide)).mp y
      have q := TpR_feed b j _ _ t l
      rw [j3]
      refine ⟨q.2.1, a, b', c, d, e, q, f, g⟩
    · rw [if_neg y, if_neg y]
      exact ⟨rfl, a, b', c, d, by show inc (h 15) 1 = inc (h 5) 1; rw [e], t, f, g⟩
  · rw [if_neg z, if_neg z]
    exact ⟨rfl, a, b', c, d, by show inc (h 15) 0 = inc (h 5) 0; rw [e], t, f, g⟩
theorem Rel_seed (R : Rel h) (v : Int32) : Rel (setg (setg h 1 (upd (h 1) 1 v)) 11 (upd (h 1) 1 v)) := by
  obtain ⟨a, b, c, d, e, t, f, g⟩ := R
  refine ⟨?_, rfl, c, d, e, t, f, g⟩
  show In (upd (h 1) 1 v)
  refine ⟨fun j hj j1 => ?_, fun s hs => ?_⟩
  · rw [upd_n _ _ j1]; exact a.1 j hj j1
  · have e2 : nD (upd (h 1) 1 v) = nD (h 1) := by show ((upd (h 1) 1 v) 2).toNatClampNeg = _; rw [upd_n _ _ (by omega)]; rfl
    rw [upd_n _ _ (by omega), e2]; exact a.2 s hs
theorem zT_w (t : Rw) : zT t (upd t 0 0) := ⟨upd_s _ _ _, fun j => upd_n _ _ (by omega)⟩
theorem Rel_wipe (R : Rel h) : Rel (setg (setg h 4 (upd (h 4) 0 0)) 14 (upd (h 14) 0 0)) := by
  obtain ⟨a, b, c, d, e, t, f, g⟩ := R
  exact ⟨a, b, c, d, e, TpR_z t (zT_w _) (zT_w _), f, g⟩
theorem Rel_text (R : Rel h) {m T t u : Rw} (i : In m) (a : zT (h 4) t) (b : zT (h 14) u) {h2 : Hp} (e2 : h2 = setg (setg (setg h 1 m) 3 T) 4 t) : Rel (setg (setg (setg h2 13 (h2 11)) 11 m) 14 u) := by
  subst e2
  obtain ⟨_, b', c, d, e, t, f, g⟩ := R
  exact ⟨i, rfl, c, d, e, TpR_z t a b, f, g⟩
theorem Rel_image (R : Rel h) : Rel (up (setg (up (setg h 2 (h 1)) 0 0 1) 12 (h 1)) 10 0 1) := by
  obtain ⟨a, b, c, d, e, t, f, g⟩ := R
  exact ⟨a, b, c, d, e, t, rfl, Or.inr ⟨a, rfl⟩⟩
theorem Rel_tear (R : Rel h) : Rel (up (up h 0 0 0) 10 0 0) := by
  obtain ⟨a, b, c, d, e, t, f, g⟩ := R
  exact ⟨a, b, c, d, e, t, rfl, Or.inl rfl⟩
theorem ok_undo (R : Rel h) : okO In (f_undo (h 0 0) (h 2)) := by
  unfold f_undo
  refine okO_if (fun _ => trivial) (fun z => ?_)
  rcases R.2.2.2.2.2.2.2 with q | q
  · exact absurd q z
  · exact q.1
theorem undo_same (R : Rel h) : f_undo (h 10 0) (h 12) = f_undo (h 0 0) (h 2) := by
  unfold f_undo
  rw [R.2.2.2.2.2.2.1]
  rcases R.2.2.2.2.2.2.2 with q | q
  · rw [if_pos q, if_pos q]
  · rw [q.2]
end RELS
theorem oC_g (h : Hp) (F : Oc) {g : Nat} (a : g ≠ 5) (b : g ≠ 1) : oC h F g = h g := by
  cases F
  · exact setg_n h _ a
  · exact setg_n h _ b
theorem oG_g (h : Hp) (F : Oc) {p q g : Nat} (a : g ≠ q) (b : g ≠ p) : oG p q h F g = h g := by
  cases F
  · exact setg_n h _ a
  · exact setg_n h _ b
theorem hQ_g (h : Hp) (F : Oc) (T : Rw) {g : Nat} (a : g ≠ 5) (b : g ≠ 1) (c : g ≠ 3) : hQ h F T g = h g := by
  unfold hQ
  rw [setg_n _ _ c, oC_g h F a b]
theorem hO_g (h : Hp) (T : Rw) (F : Option Int64) {g : Nat} (a : g ≠ 5) (c : g ≠ 3) : hO h T F g = h g := by
  cases F
  · exact setg_n h _ a
  · exact setg_n h _ c

