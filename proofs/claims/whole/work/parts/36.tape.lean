/-! THE READER, what it tells -/
/-- a byte as a sign -/
def chC (x : Int32) : Nat := if x < 0 then 200 else x.toNatClampNeg
def kd (x : Nat) : Nat := if 97 ≤ x ∧ x ≤ 122 then 1 else if 48 ≤ x ∧ x ≤ 57 then 2 else if x = 59 then 3 else 4
theorem chC_t (x : Int32) : (x.toInt < 0 ∧ chC x = 200) ∨ (0 ≤ x.toInt ∧ chC x = x.toInt.toNat) := by
  unfold chC
  by_cases q : x < 0
  · rw [if_pos q]
    have := Int32.lt_iff_toInt_lt.mp q
    exact Or.inl ⟨by simpa using this, rfl⟩
  · rw [if_neg q]
    have : ¬ x.toInt < (0 : Int32).toInt := fun z => q (Int32.lt_iff_toInt_lt.mpr z)
    exact Or.inr ⟨by simpa using this, rfl⟩
theorem i32_nlt {x y : Int32} (h : ¬ x < y) : y.toInt ≤ x.toInt := by
  have : ¬ x.toInt < y.toInt := fun z => h (Int32.lt_iff_toInt_lt.mpr z)
  omega
theorem i32_lt {x y : Int32} (h : x < y) : x.toInt < y.toInt := Int32.lt_iff_toInt_lt.mp h
theorem kd_1 {x : Int32} (h1 : ¬ x < 97) (h2 : ¬ 122 < x) : kd (chC x) = 1 := by
  have a1 : (97 : Int) ≤ x.toInt := i32_nlt h1
  have a2 : x.toInt ≤ (122 : Int) := i32_nlt h2
  rcases chC_t x with ⟨q1, q2⟩ | ⟨q1, q2⟩
  · omega
  · rw [q2]; unfold kd; rw [if_pos (by omega)]
theorem kd_2 {x : Int32} (h1 : ¬ x < 48) (h2 : ¬ 57 < x) : kd (chC x) = 2 := by
  have a1 : (48 : Int) ≤ x.toInt := i32_nlt h1
  have a2 : x.toInt ≤ (57 : Int) := i32_nlt h2
  rcases chC_t x with ⟨q1, q2⟩ | ⟨q1, q2⟩
  · omega
  · rw [q2]; unfold kd; rw [if_neg (by omega), if_pos (by omega)]
theorem kd_3 {x : Int32} (h : x = 59) : kd (chC x) = 3 := by rw [h]; decide
theorem kd_4 {x : Int32} (h1 : x < 97 ∨ 122 < x) (h2 : x < 48 ∨ 57 < x) (h3 : ¬ x = 59) : kd (chC x) = 4 := by
  have a1 : x.toInt < (97 : Int) ∨ (122 : Int) < x.toInt := h1.imp i32_lt i32_lt
  have a2 : x.toInt < (48 : Int) ∨ (57 : Int) < x.toInt := h2.imp i32_lt i32_lt
  have a3 : ¬ x.toInt = (59 : Int) := fun q => h3 (Int32.toInt_inj.mp q)
  rcases chC_t x with ⟨q1, q2⟩ | ⟨q1, q2⟩
  · rw [q2]; rfl
  · rw [q2]; unfold kd; rw [if_neg (by omega), if_neg (by omega), if_neg (by omega)]
theorem kd_le (x : Nat) : kd x ≤ 4 := by
  unfold kd
  split
  · omega
  · split
    · omega
    · split <;> omega
theorem chC_eq {x : Int32} {a : Nat} (ha : a < 128) : x = nI a ↔ chC x = a := by
  constructor
  · rintro rfl
    unfold chC
    rw [if_neg (nI_pos (by omega)), nI_clamp (by omega)]
  · intro q
    rcases chC_t x with ⟨q1, q2⟩ | ⟨q1, q2⟩
    · omega
    · apply Int32.toInt_inj.mp
      rw [nI_toInt (by omega)]
      omega
/-- the token at hand: what it is, where it begins, the place behind it, a number's value -/
abbrev Tk : Type := Nat × Nat × Nat × Nat
abbrev Tk.k (q : Tk) : Nat := q.1
abbrev Tk.s (q : Tk) : Nat := q.2.1
abbrev Tk.b (q : Tk) : Nat := q.2.2.1
abbrev Tk.v (q : Tk) : Nat := q.2.2.2
def skp (c : Nat → Nat) (n : Nat) : Nat → Nat → Nat
  | 0, p => p
  | f + 1, p => if p < n ∧ c p = 32 then skp c n f (p + 1) else p
def run (c : Nat → Nat) (n k : Nat) : Nat → Nat → Nat
  | 0, p => p
  | f + 1, p => if p < n ∧ kd (c p) = k then run c n k f (p + 1) else p
def vst (c : Nat → Nat) (p v : Nat) : Nat := if v ≤ 9999 then 10 * v + (c p - 48) else v
def val (c : Nat → Nat) (n : Nat) : Nat → Nat → Nat → Nat
  | 0, _, v => v
  | f + 1, p, v => if p < n ∧ kd (c p) = 2 then val c n f (p + 1) (vst c p v) else v
/-- the token behind place p (fl: what is no token goes on) -/
def nxt (fl : Bool) (c : Nat → Nat) (n s : Nat) : Tk :=
  if n ≤ s then ⟨0, s, s, 0⟩ else if kd (c s) = 3 ∨ (kd (c s) = 4 ∧ fl = false) then ⟨kd (c s), s, s + 1, 0⟩ else ⟨kd (c s), s, run c n (kd (c s)) (n - s) s, if kd (c s) = 2 then val c n (n - s) s 0 else 0⟩
def nx (fl : Bool) (c : Nat → Nat) (n p : Nat) : Tk := nxt fl c n (skp c n (n - p) p)
theorem skp_le (c : Nat → Nat) (n : Nat) : ∀ f p, p ≤ n → p ≤ skp c n f p ∧ skp c n f p ≤ n
  | 0, p, h => ⟨Nat.le_refl _, h⟩
  | f + 1, p, h => by
    unfold skp
    by_cases q : p < n ∧ c p = 32
    · rw [if_pos q]
      have := skp_le c n f (p + 1) q.1
      omega
    · rw [if_neg q]; omega
theorem run_le (c : Nat → Nat) (n k : Nat) : ∀ f p, p ≤ n → p ≤ run c n k f p ∧ run c n k f p ≤ n
  | 0, p, h => ⟨Nat.le_refl _, h⟩
  | f + 1, p, h => by
    unfold run
    by_cases q : p < n ∧ kd (c p) = k
    · rw [if_pos q]
      have := run_le c n k f (p + 1) q.1
      omega
    · rw [if_neg q]; omega
theorem vst_le (c : Nat → Nat) {p v : Nat} (hk : kd (c p) = 2) (hv : v ≤ 99999) : vst c p v ≤ 99999 := by
  have h9 : c p ≤ 57 ∨ ¬ c p ≤ 57 := by omega
  unfold kd at hk
  unfold vst
  by_cases q : v ≤ 9999
  · rw [if_pos q]
    split at hk
    · omega
    · split at hk
      · omega
      · split at hk <;> omega
  · rw [if_neg q]; exact hv
theorem val_le (c : Nat → Nat) (n : Nat) : ∀ f p v, v ≤ 99999 → val c n f p v ≤ 99999
  | 0, p, v, h => h
  | f + 1, p, v, h => by
    unfold val
    by_cases q : p < n ∧ kd (c p) = 2
    · rw [if_pos q]
      exact val_le c n f (p + 1) _ (vst_le c q.2 h)
    · rw [if_neg q]; exact h
/-- what holds of a token -/
def TkOk (c : Nat → Nat) (n : Nat) (q : Tk) : Prop := q.s ≤ q.b ∧ q.b ≤ n ∧ q.v ≤ 99999 ∧ q.k ≤ 4
theorem nx_ok (fl : Bool) (c : Nat → Nat) {n p : Nat} (hp : p ≤ n) : TkOk c n (nx fl c n p) ∧ p ≤ (nx fl c n p).s ∧ ((nx fl c n p).k ≠ 0 → p < (nx fl c n p).b) := by
  have hs := skp_le c n (n - p) p hp
  unfold nx
  generalize skp c n (n - p) p = s at hs ⊢
  unfold nxt TkOk
  by_cases h1 : n ≤ s
  · rw [if_pos h1]
    refine ⟨⟨Nat.le_refl _, hs.2, Nat.zero_le _, Nat.zero_le _⟩, hs.1, fun q => absurd rfl q⟩
  · rw [if_neg h1]
    by_cases h2 : kd (c s) = 3 ∨ (kd (c s) = 4 ∧ fl = false)
    · rw [if_pos h2]
      have := kd_le (c s)
      refine ⟨⟨?_, ?_, Nat.zero_le _, this⟩, hs.1, fun _ => ?_⟩
      · show s ≤ s + 1; omega
      · show s + 1 ≤ n; omega
      · show p < s + 1; omega
    · rw [if_neg h2]
      have := kd_le (c s)
      have hr : s + 1 ≤ run c n (kd (c s)) (n - s) s ∧ run c n (kd (c s)) (n - s) s ≤ n := by
        obtain ⟨f, hf⟩ : ∃ f, n - s = f + 1 := ⟨n - s - 1, by omega⟩
        rw [hf, run, if_pos ⟨by omega, rfl⟩]
        exact run_le c n _ f (s + 1) (by omega)
      refine ⟨⟨?_, hr.2, ?_, this⟩, hs.1, fun _ => ?_⟩
      · show s ≤ run c n (kd (c s)) (n - s) s; omega
      · show (if kd (c s) = 2 then val c n (n - s) s 0 else 0) ≤ 99999
        split
        · exact val_le c n _ _ _ (by omega)
        · omega
      · show p < run c n (kd (c s)) (n - s) s; omega
/-- whether the token is text i -/
def chr (i j : Nat) : Nat := (txC i j).toNatClampNeg
theorem chr_ok : ∀ i, i < 13 → ∀ j, j < txLen.getD i 0 → (txC i j = nI (chr i j) ∧ 97 ≤ chr i j ∧ chr i j ≤ 122) := by decide +kernel
def mtc (c : Nat → Nat) (s i : Nat) : Nat → Bool
  | 0 => true
  | j + 1 => mtc c s i j && decide (c (s + j) = chr i j)
def isW (c : Nat → Nat) (q : Tk) (i : Nat) : Bool := decide (q.k = 1) && (decide (q.b - q.s = txLen.getD i 0) && mtc c q.s i (txLen.getD i 0))
theorem mtc_f {c : Nat → Nat} {s i k : Nat} (h : mtc c s i k = false) : ∀ j, mtc c s i (k + j) = false
  | 0 => h
  | j + 1 => by
    show (mtc c s i (k + j) && decide (c (s + (k + j)) = chr i (k + j))) = false
    rw [mtc_f h j, Bool.false_and]
def okN (T : Nat) (q : Tk) : Bool := decide (q.k = 2 ∧ q.v ≤ T)
def tkW (N : Nat → Tk) (c : Nat → Nat) (q : Tk) (i : Nat) : Tk := if isW c q i = true then N q.b else q
def tkN (N : Nat → Tk) (T : Nat) (q : Tk) : Tk := if okN T q = true then N q.b else q
def tnV (T : Nat) (q : Tk) : Int32 := if okN T q = true then nI q.v else -1
theorem tnV_t {T : Nat} {q : Tk} (h : 0 ≤ tnV T q) : okN T q = true := by
  unfold tnV at h
  by_cases e : okN T q = true
  · exact e
  · rw [if_neg e] at h; exact absurd h (by decide)
theorem tnV_f {T : Nat} {q : Tk} (hv : q.v ≤ 99999) (h : ¬ 0 ≤ tnV T q) : okN T q = false := by
  unfold tnV at h
  cases e : okN T q with
  | false => rfl
  | true => rw [if_pos e] at h; exact absurd (nI_pos' (by omega)) h
theorem tnV_v {T : Nat} {q : Tk} (h : okN T q = true) : tnV T q = nI q.v := if_pos h
theorem okN_le {T : Nat} {q : Tk} (h : okN T q = true) : q.v ≤ T := (of_decide_eq_true h).2
/-! THE CLASS'S TAPE -/
def wI (t : Rw) (k s b v : Int32) : Rw := fun j => if j = 1 then k else if j = 2 then s else if j = 3 then b else if j = 4 then v else t j
def hW (h : Hp) (k s b v : Int32) : Hp := setg h 4 (wI (h 4) k s b v)
section HW
variable (h : Hp) (k s b v x : Int32)
theorem hW_0 : hW h k s b v 4 0 = h 4 0 := rfl
theorem hW_1 : hW h k s b v 4 1 = k := rfl
theorem hW_2 : hW h k s b v 4 2 = s := rfl
theorem hW_3 : hW h k s b v 4 3 = b := rfl
theorem hW_4 : hW h k s b v 4 4 = v := rfl
theorem hW_b (j : Nat) : hW h k s b v 4 (10 + j) = h 4 (10 + j) := by
  show wI (h 4) k s b v (10 + j) = _
  unfold wI
  rw [if_neg (by omega), if_neg (by omega), if_neg (by omega), if_neg (by omega)]
theorem hW_g {g : Nat} (n : g ≠ 4) : hW h k s b v g = h g := setg_n h _ n
theorem wI_w (t : Rw) (a b c d k s e v : Int32) : wI (wI t a b c d) k s e v = wI t k s e v := by
  funext j
  unfold wI
  by_cases h1 : j = 1
  · simp [h1]
  · by_cases h2 : j = 2
    · simp [h2]
    · by_cases h3 : j = 3
      · simp [h3]
      · by_cases h4 : j = 4
        · simp [h4]
        · simp [h1, h2, h3, h4]
theorem hW_hW (a b2 c d : Int32) : hW (hW h a b2 c d) k s b v = hW h k s b v := by
  unfold hW
  rw [setg_s, setg_2, wI_w]
theorem hW_self : hW h (h 4 1) (h 4 2) (h 4 3) (h 4 4) = h := by
  have e : wI (h 4) (h 4 1) (h 4 2) (h 4 3) (h 4 4) = h 4 := by
    funext j
    unfold wI
    by_cases h1 : j = 1
    · simp [h1]
    · by_cases h2 : j = 2
      · simp [h2]
      · by_cases h3 : j = 3
        · simp [h3]
        · by_cases h4 : j = 4
          · simp [h4]
          · simp [h1, h2, h3, h4]
  unfold hW
  rw [e, setg_id]
theorem up_hW1 : up (hW h k s b v) 4 1 x = hW h x s b v := by
  rw [up_setg]
  unfold hW
  rw [setg_s, setg_2]
  congr 1
  funext j
  unfold upd wI
  by_cases e : j = 1 <;> simp [e]
theorem up_hW2 : up (hW h k s b v) 4 2 x = hW h k x b v := by
  rw [up_setg]
  unfold hW
  rw [setg_s, setg_2]
  congr 1
  funext j
  unfold upd wI
  by_cases e : j = 2 <;> simp [e]
theorem up_hW3 : up (hW h k s b v) 4 3 x = hW h k s x v := by
  rw [up_setg]
  unfold hW
  rw [setg_s, setg_2]
  congr 1
  funext j
  unfold upd wI
  by_cases e : j = 3 <;> simp [e]
theorem up_hW4 : up (hW h k s b v) 4 4 x = hW h k s b x := by
  rw [up_setg]
  unfold hW
  rw [setg_s, setg_2]
  congr 1
  funext j
  unfold upd wI
  by_cases e : j = 4 <;> simp [e]
theorem setg_hW {g : Nat} (n : g ≠ 4) (m : Rw) : setg (hW h k s b v) g m = hW (setg h g m) k s b v := by
  unfold hW
  rw [setg_c h (fun q => n q.symm), setg_n h m (fun q => n q.symm)]
end HW
def hT (h : Hp) (q : Tk) : Hp := hW h (nI q.k) (nI q.s) (nI q.b) (nI q.v)
def cC (t : Rw) (j : Nat) : Nat := chC (t (10 + j))

set_option maxRecDepth 100000 in
set_option maxHeartbeats 4000000 in
theorem c_X2_tokenBegunBy {X : Sc} {h : Hp} {x : Int32} : Ct X yX2_tokenBegunBy cX2_tokenBegunBy 1 (some .int) 0 [.int x] h (some (.int (nI (kd (chC x))))) h := by
  refine ⟨rfl, ?_⟩
  refine g_iload_n dX2_tokenBegunBy_0 rfl ?_
  refine g_bipush dX2_tokenBegunBy_1 bp_97 ?_
  refine g_icmp_lt 14 dX2_tokenBegunBy_3 (by decide) (fun c3 => ?_) (fun c3 => ?_)
  · refine g_iload_n dX2_tokenBegunBy_14 rfl ?_
    refine g_bipush dX2_tokenBegunBy_15 bp_48 ?_
    refine g_icmp_lt 28 dX2_tokenBegunBy_17 (by decide) (fun c17 => ?_) (fun c17 => ?_)
    · refine g_iload_n dX2_tokenBegunBy_28 rfl ?_
      refine g_bipush dX2_tokenBegunBy_29 bp_59 ?_
      refine g_icmp_ne 38 dX2_tokenBegunBy_31 (by decide) (fun c31 => ?_) (fun c31 => ?_)
      · refine g_iconst dX2_tokenBegunBy_38 ic_4 ?_
        exact g_ireturn dX2_tokenBegunBy_39 (by first | (rw [kd_3 c31]; rfl) | (rw [kd_4 (Or.inl c3) (Or.inl c17) c31]; rfl) | (rw [kd_4 (Or.inl c3) (Or.inr c23) c31]; rfl) | (rw [kd_4 (Or.inr c9) (Or.inl c17) c31]; rfl) | (rw [kd_4 (Or.inr c9) (Or.inr c23) c31]; rfl)) rfl
      · refine g_iconst dX2_tokenBegunBy_34 ic_3 ?_
        refine g_goto 39 dX2_tokenBegunBy_35 (by decide) ?_
        exact g_ireturn dX2_tokenBegunBy_39 (by first | (rw [kd_3 c31]; rfl) | (rw [kd_4 (Or.inl c3) (Or.inl c17) c31]; rfl) | (rw [kd_4 (Or.inl c3) (Or.inr c23) c31]; rfl) | (rw [kd_4 (Or.inr c9) (Or.inl c17) c31]; rfl) | (rw [kd_4 (Or.inr c9) (Or.inr c23) c31]; rfl)) rfl
    · refine g_iload_n dX2_tokenBegunBy_20 rfl ?_
      refine g_bipush dX2_tokenBegunBy_21 bp_57 ?_
      refine g_icmp_gt 28 dX2_tokenBegunBy_23 (by decide) (fun c23 => ?_) (fun c23 => ?_)
      · refine g_iload_n dX2_tokenBegunBy_28 rfl ?_
        refine g_bipush dX2_tokenBegunBy_29 bp_59 ?_
        refine g_icmp_ne 38 dX2_tokenBegunBy_31 (by decide) (fun c31 => ?_) (fun c31 => ?_)
        · refine g_iconst dX2_tokenBegunBy_38 ic_4 ?_
          exact g_ireturn dX2_tokenBegunBy_39 (by first | (rw [kd_3 c31]; rfl) | (rw [kd_4 (Or.inl c3) (Or.inl c17) c31]; rfl) | (rw [kd_4 (Or.inl c3) (Or.inr c23) c31]; rfl) | (rw [kd_4 (Or.inr c9) (Or.inl c17) c31]; rfl) | (rw [kd_4 (Or.inr c9) (Or.inr c23) c31]; rfl)) rfl
        · refine g_iconst dX2_tokenBegunBy_34 ic_3 ?_
          refine g_goto 39 dX2_tokenBegunBy_35 (by decide) ?_
          exact g_ireturn dX2_tokenBegunBy_39 (by first | (rw [kd_3 c31]; rfl) | (rw [kd_4 (Or.inl c3) (Or.inl c17) c31]; rfl) | (rw [kd_4 (Or.inl c3) (Or.inr c23) c31]; rfl) | (rw [kd_4 (Or.inr c9) (Or.inl c17) c31]; rfl) | (rw [kd_4 (Or.inr c9) (Or.inr c23) c31]; rfl)) rfl
      · refine g_iconst dX2_tokenBegunBy_26 ic_2 ?_
        exact g_ireturn dX2_tokenBegunBy_27 (by rw [kd_2 c17 c23]; rfl) rfl
  · refine g_iload_n dX2_tokenBegunBy_6 rfl ?_
    refine g_bipush dX2_tokenBegunBy_7 bp_122 ?_
    refine g_icmp_gt 14 dX2_tokenBegunBy_9 (by decide) (fun c9 => ?_) (fun c9 => ?_)
    · refine g_iload_n dX2_tokenBegunBy_14 rfl ?_
      refine g_bipush dX2_tokenBegunBy_15 bp_48 ?_
      refine g_icmp_lt 28 dX2_tokenBegunBy_17 (by decide) (fun c17 => ?_) (fun c17 => ?_)
      · refine g_iload_n dX2_tokenBegunBy_28 rfl ?_
        refine g_bipush dX2_tokenBegunBy_29 bp_59 ?_
        refine g_icmp_ne 38 dX2_tokenBegunBy_31 (by decide) (fun c31 => ?_) (fun c31 => ?_)
        · refine g_iconst dX2_tokenBegunBy_38 ic_4 ?_
          exact g_ireturn dX2_tokenBegunBy_39 (by first | (rw [kd_3 c31]; rfl) | (rw [kd_4 (Or.inl c3) (Or.inl c17) c31]; rfl) | (rw [kd_4 (Or.inl c3) (Or.inr c23) c31]; rfl) | (rw [kd_4 (Or.inr c9) (Or.inl c17) c31]; rfl) | (rw [kd_4 (Or.inr c9) (Or.inr c23) c31]; rfl)) rfl
        · refine g_iconst dX2_tokenBegunBy_34 ic_3 ?_
          refine g_goto 39 dX2_tokenBegunBy_35 (by decide) ?_
          exact g_ireturn dX2_tokenBegunBy_39 (by first | (rw [kd_3 c31]; rfl) | (rw [kd_4 (Or.inl c3) (Or.inl c17) c31]; rfl) | (rw [kd_4 (Or.inl c3) (Or.inr c23) c31]; rfl) | (rw [kd_4 (Or.inr c9) (Or.inl c17) c31]; rfl) | (rw [kd_4 (Or.inr c9) (Or.inr c23) c31]; rfl)) rfl
      · refine g_iload_n dX2_tokenBegunBy_20 rfl ?_
        refine g_bipush dX2_tokenBegunBy_21 bp_57 ?_
        refine g_icmp_gt 28 dX2_tokenBegunBy_23 (by decide) (fun c23 => ?_) (fun c23 => ?_)
        · refine g_iload_n dX2_tokenBegunBy_28 rfl ?_
          refine g_bipush dX2_tokenBegunBy_29 bp_59 ?_
          refine g_icmp_ne 38 dX2_tokenBegunBy_31 (by decide) (fun c31 => ?_) (fun c31 => ?_)
          · refine g_iconst dX2_tokenBegunBy_38 ic_4 ?_
            exact g_ireturn dX2_tokenBegunBy_39 (by first | (rw [kd_3 c31]; rfl) | (rw [kd_4 (Or.inl c3) (Or.inl c17) c31]; rfl) | (rw [kd_4 (Or.inl c3) (Or.inr c23) c31]; rfl) | (rw [kd_4 (Or.inr c9) (Or.inl c17) c31]; rfl) | (rw [kd_4 (Or.inr c9) (Or.inr c23) c31]; rfl)) rfl
          · refine g_iconst dX2_tokenBegunBy_34 ic_3 ?_
            refine g_goto 39 dX2_tokenBegunBy_35 (by decide) ?_
            exact g_ireturn dX2_tokenBegunBy_39 (by first | (rw [kd_3 c31]; rfl) | (rw [kd_4 (Or.inl c3) (Or.inl c17) c31]; rfl) | (rw [kd_4 (Or.inl c3) (Or.inr c23) c31]; rfl) | (rw [kd_4 (Or.inr c9) (Or.inl c17) c31]; rfl) | (rw [kd_4 (Or.inr c9) (Or.inr c23) c31]; rfl)) rfl
        · refine g_iconst dX2_tokenBegunBy_26 ic_2 ?_
          exact g_ireturn dX2_tokenBegunBy_27 (by rw [kd_2 c17 c23]; rfl) rfl
    · refine g_iconst dX2_tokenBegunBy_12 ic_1 ?_
      exact g_ireturn dX2_tokenBegunBy_13 (by rw [kd_1 c3 c9]; rfl) rfl

set_option maxRecDepth 100000 in
set_option maxHeartbeats 4000000 in
theorem lT1 {X : Sc} {h h' : Hp} {n : Nat} (e0 : h 4 0 = nI n) (hn : n ≤ 120) {k b v : Int32} : ∀ f p, n ≤ p + f → p ≤ n → Go X RX2 cX2_nextToken 1 1 46 [.ref 16] [] (hW h k (nI (skp (cC (h 4)) n f p)) b v) none h' → Go X RX2 cX2_nextToken 1 1 8 [.ref 16] [] (hW h k (nI p) b v) none h' := by
  intro f
  induction f with
  | zero =>
    intro p hp hp2 K
    refine g_aload_n dX2_nextToken_8 rfl ?_
    refine g_getI dX2_nextToken_9 fl_X2_30 rfl rfl ?_
    rw [hW_2]
    refine g_aload_n dX2_nextToken_12 rfl ?_
    refine g_getI dX2_nextToken_13 fl_X2_13 rfl rfl ?_
    rw [hW_0, e0]
    refine g_icmp_ge 46 dX2_nextToken_16 (by decide) (fun c16 => ?_) (fun c16 => ?_)
    · exact K
    · exact absurd (nI_le (by omega) (by omega)) c16
  | succ f ih =>
    intro p hp hp2 K
    refine g_aload_n dX2_nextToken_8 rfl ?_
    refine g_getI dX2_nextToken_9 fl_X2_30 rfl rfl ?_
    rw [hW_2]
    refine g_aload_n dX2_nextToken_12 rfl ?_
    refine g_getI dX2_nextToken_13 fl_X2_13 rfl rfl ?_
    rw [hW_0, e0]
    refine g_icmp_ge 46 dX2_nextToken_16 (by decide) (fun c16 => ?_) (fun c16 => ?_)
    · have q1 := (nI_leI (by omega) (by omega)).mp c16
      rw [skp, if_neg (by omega)] at K
      exact K
    · refine g_aload_n dX2_nextToken_19 rfl ?_
      refine g_getR dX2_nextToken_20 fl_X2_9 rfl rfl ?_
      refine g_aload_n dX2_nextToken_23 rfl ?_
      refine g_getI dX2_nextToken_24 fl_X2_30 rfl rfl ?_
      rw [hW_2]
      refine g_bald p dX2_nextToken_27 rfl rfl (by have := (nI_leI (a := n) (b := p) (by omega) (by omega)); have : ¬ n ≤ p := fun z => c16 (this.mpr z); omega) ?_
      rw [hW_b]
      refine g_bipush dX2_nextToken_28 bp_32 ?_
      refine g_icmp_ne 46 dX2_nextToken_30 (by decide) (fun c30 => ?_) (fun c30 => ?_)
      · rw [skp, if_neg (fun z => c30 ((chC_eq (by decide)).mpr z.2))] at K
        exact K
      · have q1 : p < n := Nat.lt_of_not_le (fun z => c16 (nI_le z (by omega)))
        rw [skp, if_pos ⟨q1, (chC_eq (by decide)).mp c30⟩] at K
        refine g_aload_n dX2_nextToken_33 rfl ?_
        refine g_dup dX2_nextToken_34 rfl ?_
        refine g_getI dX2_nextToken_35 fl_X2_30 rfl rfl ?_
        rw [hW_2]
        refine g_iconst dX2_nextToken_38 ic_1 ?_
        refine g_iadd dX2_nextToken_39 ?_
        refine g_putI dX2_nextToken_40 fl_X2_30 fp_2_3 rfl rfl ?_
        rw [up_hW2, nI_1]
        refine g_goto 8 dX2_nextToken_43 (by decide) ?_
        exact ih (p + 1) (by omega) (by omega) K

set_option maxRecDepth 100000 in
set_option maxHeartbeats 4000000 in
theorem lT2t {X : Sc} {h : Hp} {n : Nat} (e0 : h 4 0 = nI n) (hn : n ≤ 120) {k p f v : Nat} {s : Int32} (hk4 : k ≤ 4) (hp : p < n) (hf : p + (f + 1) = n) (ih : ¬ k = 3 → p + 1 < n → kd (cC (h 4) (p + 1)) = k → Go X RX2 cX2_nextToken 1 1 92 [.ref 16] [] (hW h (nI k) s (nI (p + 1)) (nI v)) none (hW h (nI k) s (nI (if k = 3 then p + 1 else run (cC (h 4)) n k f (p + 1))) (nI (if k = 2 then val (cC (h 4)) n f (p + 1) v else v)))) : Go X RX2 cX2_nextToken 1 1 134 [.ref 16] [] (hW h (nI k) s (nI p) (nI v)) none (hW h (nI k) s (nI (if k = 3 then p + 1 else run (cC (h 4)) n k f (p + 1))) (nI (if k = 2 then val (cC (h 4)) n f (p + 1) v else v))) := by
  refine g_aload_n dX2_nextToken_134 rfl ?_
  refine g_dup dX2_nextToken_135 rfl ?_
  refine g_getI dX2_nextToken_136 fl_X2_17 rfl rfl ?_
  rw [hW_3]
  refine g_iconst dX2_nextToken_139 ic_1 ?_
  refine g_iadd dX2_nextToken_140 ?_
  refine g_putI dX2_nextToken_141 fl_X2_17 fp_2_4 rfl rfl ?_
  rw [up_hW3, nI_1]
  refine g_aload_n dX2_nextToken_144 rfl ?_
  refine g_getI dX2_nextToken_145 fl_X2_27 rfl rfl ?_
  rw [hW_1]
  refine g_iconst dX2_nextToken_148 ic_3 ?_
  refine g_icmp_eq 182 dX2_nextToken_149 (by decide) (fun c149 => ?_) (fun c149 => ?_)
  · have k3 : k = 3 := (nI_eq (a := k) (b := 3) (by omega) (by decide)).mp c149
    exact g_return dX2_nextToken_182 rfl (by rw [if_pos k3, if_neg (by omega)])
  · have k3 : ¬ k = 3 := fun z => c149 (by rw [z]; rfl)
    refine g_aload_n dX2_nextToken_152 rfl ?_
    refine g_getI dX2_nextToken_153 fl_X2_17 rfl rfl ?_
    rw [hW_3]
    refine g_aload_n dX2_nextToken_156 rfl ?_
    refine g_getI dX2_nextToken_157 fl_X2_13 rfl rfl ?_
    rw [hW_0, e0]
    refine g_icmp_ge 182 dX2_nextToken_160 (by decide) (fun c160 => ?_) (fun c160 => ?_)
    · have q1 := (nI_leI (by omega) (by omega)).mp c160
      have f0 : f = 0 := by omega
      subst f0
      exact g_return dX2_nextToken_182 rfl (by rw [if_neg k3]; unfold run val; rw [ite_self])
    · have q1 : p + 1 < n := Nat.lt_of_not_le (fun z => c160 (nI_le z (by omega)))
      refine g_aload_n dX2_nextToken_163 rfl ?_
      refine g_getR dX2_nextToken_164 fl_X2_9 rfl rfl ?_
      refine g_aload_n dX2_nextToken_167 rfl ?_
      refine g_getI dX2_nextToken_168 fl_X2_17 rfl rfl ?_
      rw [hW_3]
      refine g_bald (p + 1) dX2_nextToken_171 rfl rfl (by omega) ?_
      rw [hW_b]
      refine g_callS1i (c_X2_tokenBegunBy) mi_X2_tokenBegunBy ms_X2_tokenBegunBy ml_X2_121 dX2_nextToken_172 (by decide) (Nat.le_of_ble_eq_true rfl) (Nat.le_of_ble_eq_true rfl) ?_
      refine g_aload_n dX2_nextToken_175 rfl ?_
      refine g_getI dX2_nextToken_176 fl_X2_27 rfl rfl ?_
      rw [hW_1]
      refine g_icmp_eq 92 dX2_nextToken_179 (by decide) (fun c179 => ?_) (fun c179 => ?_)
      · exact ih k3 q1 ((nI_eq (by have := kd_le (cC (h 4) (p + 1)); omega) (by omega)).mp c179)
      · have nk : ¬ kd (cC (h 4) (p + 1)) = k := fun z => c179 (by rw [← z]; rfl)
        obtain ⟨f1, rfl⟩ : ∃ f1, f = f1 + 1 := ⟨f - 1, by omega⟩
        refine g_return dX2_nextToken_182 rfl ?_
        rw [if_neg k3, run, if_neg (fun z => nk z.2)]
        by_cases k2 : k = 2
        · rw [if_pos k2, val, if_neg (fun z => nk (by rw [k2]; exact z.2))]
        · rw [if_neg k2]

theorem digit_v {x : Int32} {v : Nat} (hk : kd (chC x) = 2) : 10 * nI v + (x - 48) = nI (10 * v + (chC x - 48)) := by
  have hx : 48 ≤ chC x ∧ chC x ≤ 57 := by
    unfold kd at hk
    split at hk
    · omega
    · split at hk
      · assumption
      · split at hk <;> omega
  have e : x = nI (chC x) := (chC_eq (by omega)).mpr rfl
  have e2 : x - 48 = nI (chC x - 48) := by
    rw [show x - 48 = nI (chC x) - nI 48 from by rw [← e]; rfl, pk_sub hx.1]
  rw [e2, show (10 : Int32) = nI 10 from rfl, pk_mul, nI_add]

set_option maxRecDepth 100000 in
set_option maxHeartbeats 4000000 in
theorem lT2 {X : Sc} {h : Hp} {n : Nat} (e0 : h 4 0 = nI n) (hn : n ≤ 120) {k : Nat} {s : Int32} (hk4 : k ≤ 4) (k3 : ¬ k = 3) : ∀ f p v, p + f = n → p < n → kd (cC (h 4) p) = k → v ≤ 99999 → Go X RX2 cX2_nextToken 1 1 92 [.ref 16] [] (hW h (nI k) s (nI p) (nI v)) none (hW h (nI k) s (nI (run (cC (h 4)) n k f p)) (nI (if k = 2 then val (cC (h 4)) n f p v else v))) := by
  intro f
  induction f with
  | zero => intro p v hf hp hk hv; omega
  | succ f ih =>
    intro p v hf hp hk hv
    rw [run, if_pos ⟨hp, hk⟩]
    by_cases k2 : k = 2
    · rw [if_pos k2, val, if_pos ⟨hp, k2 ▸ hk⟩]
      have hk2 : kd (chC (h 4 (10 + p))) = 2 := k2 ▸ hk
      have K : Go X RX2 cX2_nextToken 1 1 134 [.ref 16] [] (hW h (nI k) s (nI p) (nI (vst (cC (h 4)) p v))) none (hW h (nI k) s (nI (run (cC (h 4)) n k f (p + 1))) (nI (val (cC (h 4)) n f (p + 1) (vst (cC (h 4)) p v)))) := by
        have K0 := lT2t (X := X) (s := s) e0 hn (k := k) (p := p) (f := f) (v := vst (cC (h 4)) p v) hk4 hp hf
        rw [if_neg k3] at K0
        rw [if_pos k2] at K0
        refine K0 (fun _ q1 q2 => ?_)
        have K1 := ih (p + 1) (vst (cC (h 4)) p v) (by omega) q1 q2 (vst_le (cC (h 4)) hk2 hv)
        rw [if_pos k2] at K1
        exact K1
      refine g_aload_n dX2_nextToken_92 rfl ?_
      refine g_getI dX2_nextToken_93 fl_X2_27 rfl rfl ?_
      rw [hW_1]
      refine g_iconst dX2_nextToken_96 ic_2 ?_
      refine g_icmp_ne 134 dX2_nextToken_97 (by decide) (fun c97 => ?_) (fun c97 => ?_)
      · exact absurd (by rw [k2]; rfl) c97
      · refine g_aload_n dX2_nextToken_100 rfl ?_
        refine g_getI dX2_nextToken_101 fl_X2_95 rfl rfl ?_
        rw [hW_4]
        refine g_sipush dX2_nextToken_104 sp_9999 ?_
        refine g_icmp_gt 134 dX2_nextToken_107 (by decide) (fun c107 => ?_) (fun c107 => ?_)
        · have z : ¬ v ≤ 9999 := fun z => nI_nlt (a := 9999) (b := v) z (by omega) c107
          have e2 : vst (cC (h 4)) p v = v := if_neg z
          rw [e2] at K ⊢
          exact K
        · refine g_aload_n dX2_nextToken_110 rfl ?_
          refine g_bipush dX2_nextToken_111 bp_10 ?_
          refine g_aload_n dX2_nextToken_113 rfl ?_
          refine g_getI dX2_nextToken_114 fl_X2_95 rfl rfl ?_
          rw [hW_4]
          refine g_imul dX2_nextToken_117 ?_
          refine g_aload_n dX2_nextToken_118 rfl ?_
          refine g_getR dX2_nextToken_119 fl_X2_9 rfl rfl ?_
          refine g_aload_n dX2_nextToken_122 rfl ?_
          refine g_getI dX2_nextToken_123 fl_X2_17 rfl rfl ?_
          rw [hW_3]
          refine g_bald p dX2_nextToken_126 rfl rfl (by omega) ?_
          rw [hW_b]
          refine g_bipush dX2_nextToken_127 bp_48 ?_
          refine g_isub dX2_nextToken_129 ?_
          refine g_iadd dX2_nextToken_130 ?_
          refine g_putI dX2_nextToken_131 fl_X2_95 fp_2_5 rfl rfl ?_
          rw [up_hW4]
          have z : v ≤ 9999 := Nat.le_of_not_lt (fun z => c107 (nI_lt (a := 9999) z (by omega)))
          have e2 : vst (cC (h 4)) p v = 10 * v + (chC (h 4 (10 + p)) - 48) := if_pos z
          rw [digit_v (x := h 4 (10 + p)) hk2]
          rw [e2] at K ⊢
          exact K
    · rw [if_neg k2]
      have K : Go X RX2 cX2_nextToken 1 1 134 [.ref 16] [] (hW h (nI k) s (nI p) (nI v)) none (hW h (nI k) s (nI (run (cC (h 4)) n k f (p + 1))) (nI v)) := by
        have K0 := lT2t (X := X) (s := s) e0 hn (k := k) (p := p) (f := f) (v := v) hk4 hp hf
        rw [if_neg k3] at K0
        rw [if_neg k2] at K0
        refine K0 (fun _ q1 q2 => ?_)
        have K1 := ih (p + 1) v (by omega) q1 q2 hv
        rw [if_neg k2] at K1
        exact K1
      refine g_aload_n dX2_nextToken_92 rfl ?_
      refine g_getI dX2_nextToken_93 fl_X2_27 rfl rfl ?_
      rw [hW_1]
      refine g_iconst dX2_nextToken_96 ic_2 ?_
      refine g_icmp_ne 134 dX2_nextToken_97 (by decide) (fun c97 => ?_) (fun c97 => ?_)
      · exact K
      · exact absurd ((nI_eq (a := k) (b := 2) (by omega) (by decide)).mp c97) k2

set_option maxRecDepth 100000 in
set_option maxHeartbeats 4000000 in
theorem lT3 {X : Sc} {h : Hp} {n : Nat} (e0 : h 4 0 = nI n) (hn : n ≤ 120) {k p : Nat} {s v : Int32} (k3 : k = 3) (hp : p < n) : Go X RX2 cX2_nextToken 1 1 92 [.ref 16] [] (hW h (nI k) s (nI p) (nI 0)) none (hW h (nI k) s (nI (p + 1)) (nI 0)) := by
  have K0 := lT2t (X := X) (s := s) e0 hn (k := k) (p := p) (f := n - p - 1) (v := 0) (by omega) hp (by omega) (fun q => absurd k3 q)
  rw [if_pos k3] at K0
  rw [if_neg (show ¬ k = 2 by omega)] at K0
  refine g_aload_n dX2_nextToken_92 rfl ?_
  refine g_getI dX2_nextToken_93 fl_X2_27 rfl rfl ?_
  rw [hW_1]
  refine g_iconst dX2_nextToken_96 ic_2 ?_
  refine g_icmp_ne 134 dX2_nextToken_97 (by decide) (fun c97 => ?_) (fun c97 => ?_)
  · exact K0
  · exact absurd ((nI_eq (a := k) (b := 2) (by omega) (by decide)).mp c97) (by omega)

set_option maxRecDepth 100000 in
set_option maxHeartbeats 4000000 in
theorem c_X2_nextToken {X : Sc} {h : Hp} {n p : Nat} (e0 : h 4 0 = nI n) (hn : n ≤ 120) (e3 : h 4 3 = nI p) (hp : p ≤ n) : Ct X yX2_nextToken cX2_nextToken 1 none 1 [.ref 16] h none (hT h (nx true (cC (h 4)) n p)) := by
  refine ⟨trivial, ?_⟩
  refine g_h (hW_self h).symm ?_
  refine g_aload_n dX2_nextToken_0 rfl ?_
  refine g_aload_n dX2_nextToken_1 rfl ?_
  refine g_getI dX2_nextToken_2 fl_X2_17 rfl rfl ?_
  rw [hW_3, e3]
  refine g_putI dX2_nextToken_5 fl_X2_30 fp_2_3 rfl rfl ?_
  rw [up_hW2]
  refine lT1 e0 hn (n - p) p (by omega) hp ?_
  have hs := skp_le (cC (h 4)) n (n - p) p hp
  unfold nx
  generalize skp (cC (h 4)) n (n - p) p = z at hs ⊢
  unfold nxt
  refine g_aload_n dX2_nextToken_46 rfl ?_
  refine g_aload_n dX2_nextToken_47 rfl ?_
  refine g_getI dX2_nextToken_48 fl_X2_30 rfl rfl ?_
  rw [hW_2]
  refine g_putI dX2_nextToken_51 fl_X2_17 fp_2_4 rfl rfl ?_
  rw [up_hW3]
  refine g_aload_n dX2_nextToken_54 rfl ?_
  refine g_iconst dX2_nextToken_55 ic_0 ?_
  refine g_putI dX2_nextToken_56 fl_X2_95 fp_2_5 rfl rfl ?_
  rw [up_hW4]
  refine g_aload_n dX2_nextToken_59 rfl ?_
  refine g_getI dX2_nextToken_60 fl_X2_30 rfl rfl ?_
  rw [hW_2]
  refine g_aload_n dX2_nextToken_63 rfl ?_
  refine g_getI dX2_nextToken_64 fl_X2_13 rfl rfl ?_
  rw [hW_0, e0]
  refine g_icmp_lt 76 dX2_nextToken_67 (by decide) (fun c67 => ?_) (fun c67 => ?_)
  · rw [if_neg (fun q => nI_ge (a := z) (b := n) ((nI_ltI (by omega) (by omega)).mp c67) (by omega) (nI_le q (by omega)))]
    have q1 : z < n := (nI_ltI (by omega) (by omega)).mp c67
    refine g_aload_n dX2_nextToken_76 rfl ?_
    refine g_aload_n dX2_nextToken_77 rfl ?_
    refine g_getR dX2_nextToken_78 fl_X2_9 rfl rfl ?_
    refine g_aload_n dX2_nextToken_81 rfl ?_
    refine g_getI dX2_nextToken_82 fl_X2_30 rfl rfl ?_
    rw [hW_2]
    refine g_bald z dX2_nextToken_85 rfl rfl (by omega) ?_
    rw [hW_b]
    refine g_callS1i (c_X2_tokenBegunBy) mi_X2_tokenBegunBy ms_X2_tokenBegunBy ml_X2_121 dX2_nextToken_86 (by decide) (Nat.le_of_ble_eq_true rfl) (Nat.le_of_ble_eq_true rfl) ?_
    refine g_putI dX2_nextToken_89 fl_X2_27 fp_2_2 rfl rfl ?_
    rw [up_hW1]
    by_cases k3 : kd (cC (h 4) z) = 3
    · rw [if_pos (Or.inl k3)]
      exact lT3 (v := 0) e0 hn k3 q1
    · rw [if_neg (fun q => q.elim k3 (fun q2 => by cases q2.2))]
      exact lT2 (X := X) (h := h) (s := nI z) e0 hn (k := kd (cC (h 4) z)) (kd_le _) k3 (n - z) z 0 (by omega) q1 rfl (by omega)
  · have q1 : n ≤ z := Nat.le_of_not_lt (fun q => c67 (nI_lt q (by omega)))
    rw [if_pos q1]
    refine g_aload_n dX2_nextToken_70 rfl ?_
    refine g_iconst dX2_nextToken_71 ic_0 ?_
    refine g_putI dX2_nextToken_72 fl_X2_27 fp_2_2 rfl rfl ?_
    rw [up_hW1]
    exact g_return dX2_nextToken_75 rfl rfl

