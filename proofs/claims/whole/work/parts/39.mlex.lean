def rdA (fl : Bool) (c : Nat → Nat) (n : Nat) (m : Rw) : Int32 × Rw × Tk := rdT (nx fl c n) c 120 1 m (nx fl c n 0)
def zT (t u : Rw) : Prop := u 0 = 0 ∧ ∀ j, u (10 + j) = t (10 + j)
theorem zT_C (h : Hp) (q : Tk) (x : Rw) : zT (h 4) (upd (hT (setg h 3 x) q 4) 0 0) := ⟨upd_s _ _ _, fun j => by
  rw [upd_n _ _ (by omega), hT, hW_b]
  rfl⟩
theorem setg_hT4 (h : Hp) (q : Tk) (t : Rw) : setg (hT h q) 4 t = setg h 4 t := by
  unfold hT hW
  rw [setg_2]

set_option maxRecDepth 100000 in
set_option maxHeartbeats 4000000 in
theorem c_X3_text {X : Sc} {h : Hp} (hT0 : InT (h 4)) (hI : In (h 1)) : ∃ (T t : Rw), zT (h 4) t ∧ Ct X yX3_text cX3_text 2 (some .int) 9 [.ref 0] h (some (.int (rdA true (cC (h 4)) (tpL (h 4)) (h 1)).1)) (setg (setg (setg h 1 (if (rdA true (cC (h 4)) (tpL (h 4)) (h 1)).1 < 0 then h 1 else (rdA true (cC (h 4)) (tpL (h 4)) (h 1)).2.1)) 3 T) 4 t) := by
  have k0 := c_X2_readText (X := X) (h := setg h 3 (h 1)) (n := (tpL (h 4))) hT0.2 hT0.1 (by rw [setg_s]; exact hI)
  rw [setg_n h _ (show 4 ≠ 3 by decide), setg_s, setg_2] at k0
  rw [show rdT (nx true (cC (h 4)) (tpL (h 4))) (cC (h 4)) 120 1 (h 1) ((nx true (cC (h 4)) (tpL (h 4))) 0) = rdA true (cC (h 4)) (tpL (h 4)) (h 1) from rfl] at k0
  generalize rdA true (cC (h 4)) (tpL (h 4)) (h 1) = Q at k0 ⊢
  refine ⟨Q.2.1, upd (hT (setg h 3 Q.2.1) Q.2.2 4) 0 0, zT_C _ _ _, rfl, ?_⟩
  refine g_aload_n dX3_text_0 rfl ?_
  refine g_getR dX3_text_1 fl_X3_19 rfl rfl ?_
  refine g_aload_n dX3_text_4 rfl ?_
  refine g_getR dX3_text_5 fl_X3_12 rfl rfl ?_
  refine g_callV1v (c_X0_become inn3 inn1 (by decide) rfl) mi_X0_become mv_X0_become ml_X3_169 dX3_text_8 inn3.1 rfl (by decide) (Nat.le_of_ble_eq_true rfl) (Nat.le_of_ble_eq_true rfl) ?_
  refine g_aload_n dX3_text_11 rfl ?_
  refine g_getR dX3_text_12 fl_X3_25 rfl rfl ?_
  refine g_aload_n dX3_text_15 rfl ?_
  refine g_getR dX3_text_16 fl_X3_19 rfl rfl ?_
  refine g_callV1i (k0) mi_X2_readText mv_X2_readText ml_X3_220 dX3_text_19 rfl rfl (by decide) (Nat.le_of_ble_eq_true rfl) (Nat.le_of_ble_eq_true rfl) ?_
  refine g_istore_n dX3_text_22 (by decide) rfl ?_
  refine g_aload_n dX3_text_23 rfl ?_
  refine g_getR dX3_text_24 fl_X3_25 rfl rfl ?_
  refine g_iconst dX3_text_27 ic_0 ?_
  refine g_putI dX3_text_28 fl_X3_213 fp_2_1 rfl rfl ?_
  rw [up_setg, setg_hT4]
  refine g_iload_n dX3_text_31 rfl ?_
  refine g_if_lt 46 dX3_text_32 (by decide) (fun c32 => ?_) (fun c32 => ?_)
  · refine g_iload_n dX3_text_46 rfl ?_
    exact g_ireturn dX3_text_47 rfl (by first | (rw [if_pos c32, setg_id]) | (rw [if_neg c32, setg_n _ _ (show 3 ≠ 4 by decide), setg_s, setg_c _ (show 4 ≠ 1 by decide), setg_c h (show 3 ≠ 1 by decide)]))
  · refine g_aload_n dX3_text_35 rfl ?_
    refine g_getR dX3_text_36 fl_X3_12 rfl rfl ?_
    refine g_aload_n dX3_text_39 rfl ?_
    refine g_getR dX3_text_40 fl_X3_19 rfl rfl ?_
    refine g_callV1v (c_X0_become inn1 inn3 (by decide) rfl) mi_X0_become mv_X0_become ml_X3_169 dX3_text_43 inn1.1 rfl (by decide) (Nat.le_of_ble_eq_true rfl) (Nat.le_of_ble_eq_true rfl) ?_
    refine g_iload_n dX3_text_46 rfl ?_
    exact g_ireturn dX3_text_47 rfl (by first | (rw [if_pos c32, setg_id]) | (rw [if_neg c32, setg_n _ _ (show 3 ≠ 4 by decide), setg_s, setg_c _ (show 4 ≠ 1 by decide), setg_c h (show 3 ≠ 1 by decide)]))

/-! THE REFERENCE'S LEXER -/
def chM (y : Int32) : Nat := if y < 128 then y.toNatClampNeg else 200
def cM (u : Rw) (j : Nat) : Nat := chM (u (10 + j))
theorem chM_t (x : Int32) : (128 ≤ x.toInt ∧ chM x = 200) ∨ (x.toInt < 128 ∧ chM x = x.toInt.toNat) := by
  unfold chM
  by_cases q : x < 128
  · rw [if_pos q]; exact Or.inr ⟨i32_lt q, rfl⟩
  · rw [if_neg q]; exact Or.inl ⟨i32_nlt q, rfl⟩
theorem inB_iff {x lo hi : Int32} : inB x lo hi = true ↔ lo.toInt ≤ x.toInt ∧ x.toInt ≤ hi.toInt := by
  unfold inB
  simp only [Bool.and_eq_true, Bool.not_eq_true', decide_eq_false_iff_not]
  constructor
  · rintro ⟨a, b⟩; exact ⟨i32_nlt a, i32_nlt b⟩
  · rintro ⟨a, b⟩
    exact ⟨fun z => by have := i32_lt z; omega, fun z => by have := i32_lt z; omega⟩
theorem beq_of {a b : Bool} (h : a = true ↔ b = true) : a = b := by
  cases a <;> cases b <;> simp_all
theorem ib_sp (x : Int32) : inB x 32 32 = decide (chM x = 32) := by
  refine beq_of (inB_iff.trans ?_)
  rw [decide_eq_true_eq]
  show (32 : Int) ≤ _ ∧ _ ≤ (32 : Int) ↔ _
  rcases chM_t x with ⟨a, b⟩ | ⟨a, b⟩ <;> rw [b] <;> omega
theorem kd_eq1 (x : Nat) : kd x = 1 ↔ 97 ≤ x ∧ x ≤ 122 := by
  unfold kd
  split
  · simp_all
  · split
    · simp_all
    · split <;> simp_all
theorem kd_eq2 (x : Nat) : kd x = 2 ↔ 48 ≤ x ∧ x ≤ 57 := by
  unfold kd
  split
  · constructor
    · intro q; omega
    · intro q; omega
  · split
    · constructor
      · intro q; assumption
      · intro q; rfl
    · split
      · constructor <;> intro q <;> omega
      · constructor <;> intro q <;> omega
theorem kd_eq3 (x : Nat) : kd x = 3 ↔ x = 59 := by
  unfold kd
  split
  · constructor <;> intro q <;> omega
  · split
    · constructor <;> intro q <;> omega
    · split
      · constructor <;> intro q <;> first | rfl | assumption
      · constructor <;> intro q <;> omega
theorem ib_1 (x : Int32) : inB x 97 122 = decide (kd (chM x) = 1) := by
  refine beq_of (inB_iff.trans ?_)
  rw [decide_eq_true_eq, kd_eq1]
  show (97 : Int) ≤ _ ∧ _ ≤ (122 : Int) ↔ _
  rcases chM_t x with ⟨a, b⟩ | ⟨a, b⟩ <;> rw [b] <;> omega
theorem ib_2 (x : Int32) : inB x 48 57 = decide (kd (chM x) = 2) := by
  refine beq_of (inB_iff.trans ?_)
  rw [decide_eq_true_eq, kd_eq2]
  show (48 : Int) ≤ _ ∧ _ ≤ (57 : Int) ↔ _
  rcases chM_t x with ⟨a, b⟩ | ⟨a, b⟩ <;> rw [b] <;> omega
theorem ib_3 (x : Int32) : inB x 59 59 = decide (kd (chM x) = 3) := by
  refine beq_of (inB_iff.trans ?_)
  rw [decide_eq_true_eq, kd_eq3]
  show (59 : Int) ≤ _ ∧ _ ≤ (59 : Int) ↔ _
  rcases chM_t x with ⟨a, b⟩ | ⟨a, b⟩ <;> rw [b] <;> omega
theorem chM_eq {x : Int32} {a : Nat} (h0 : 0 < a) (ha : a < 128) : x = nI a ↔ chM x = a := by
  constructor
  · rintro rfl
    have z := nI_toInt (n := a) (by omega)
    rcases chM_t (nI a) with ⟨q1, q2⟩ | ⟨q1, q2⟩
    · omega
    · rw [q2, z]; omega
  · intro q
    apply Int32.toInt_inj.mp
    rw [nI_toInt (by omega)]
    rcases chM_t x with ⟨q1, q2⟩ | ⟨q1, q2⟩ <;> omega
/-- the tape's fields -/
def wJ (t : Rw) (k s b v z : Int32) : Rw := fun j => if j = 1 then k else if j = 2 then s else if j = 3 then b else if j = 4 then v else if j = 5 then z else t j
def hV (h : Hp) (k s b v z : Int32) : Hp := setg h 14 (wJ (h 14) k s b v z)
section HV
variable (h : Hp) (k s b v z x : Int32)
theorem hV_0 : hV h k s b v z 14 0 = h 14 0 := rfl
theorem hV_1 : hV h k s b v z 14 1 = k := rfl
theorem hV_2 : hV h k s b v z 14 2 = s := rfl
theorem hV_3 : hV h k s b v z 14 3 = b := rfl
theorem hV_4 : hV h k s b v z 14 4 = v := rfl
theorem hV_5 : hV h k s b v z 14 5 = z := rfl
theorem hV_b (j : Nat) : hV h k s b v z 14 (10 + j) = h 14 (10 + j) := by
  show wJ (h 14) k s b v z (10 + j) = _
  unfold wJ
  rw [if_neg (by omega), if_neg (by omega), if_neg (by omega), if_neg (by omega), if_neg (by omega)]
theorem hV_g {g : Nat} (n : g ≠ 14) : hV h k s b v z g = h g := setg_n h _ n
theorem wJ_w (t : Rw) (a b c d e k s f v z : Int32) : wJ (wJ t a b c d e) k s f v z = wJ t k s f v z := by
  funext j
  unfold wJ
  by_cases h1 : j = 1
  · simp [h1]
  · by_cases h2 : j = 2
    · simp [h2]
    · by_cases h3 : j = 3
      · simp [h3]
      · by_cases h4 : j = 4
        · simp [h4]
        · by_cases h5 : j = 5
          · simp [h5]
          · simp [h1, h2, h3, h4, h5]
theorem hV_hV (a b2 c d e : Int32) : hV (hV h a b2 c d e) k s b v z = hV h k s b v z := by
  unfold hV
  rw [setg_s, setg_2, wJ_w]
theorem hV_self : hV h (h 14 1) (h 14 2) (h 14 3) (h 14 4) (h 14 5) = h := by
  have e : wJ (h 14) (h 14 1) (h 14 2) (h 14 3) (h 14 4) (h 14 5) = h 14 := by
    funext j
    unfold wJ
    by_cases h1 : j = 1
    · simp [h1]
    · by_cases h2 : j = 2
      · simp [h2]
      · by_cases h3 : j = 3
        · simp [h3]
        · by_cases h4 : j = 4
          · simp [h4]
          · by_cases h5 : j = 5
            · simp [h5]
            · simp [h1, h2, h3, h4, h5]
  unfold hV
  rw [e, setg_id]

theorem up_hV1 : up (hV h k s b v z) 14 1 x = hV h x s b v z := by
  rw [up_setg]
  unfold hV
  rw [setg_s, setg_2]
  congr 1
  funext j
  unfold upd wJ
  by_cases e : j = 1 <;> simp [e]

theorem up_hV2 : up (hV h k s b v z) 14 2 x = hV h k x b v z := by
  rw [up_setg]
  unfold hV
  rw [setg_s, setg_2]
  congr 1
  funext j
  unfold upd wJ
  by_cases e : j = 2 <;> simp [e]

theorem up_hV3 : up (hV h k s b v z) 14 3 x = hV h k s x v z := by
  rw [up_setg]
  unfold hV
  rw [setg_s, setg_2]
  congr 1
  funext j
  unfold upd wJ
  by_cases e : j = 3 <;> simp [e]

theorem up_hV4 : up (hV h k s b v z) 14 4 x = hV h k s b x z := by
  rw [up_setg]
  unfold hV
  rw [setg_s, setg_2]
  congr 1
  funext j
  unfold upd wJ
  by_cases e : j = 4 <;> simp [e]

theorem up_hV5 : up (hV h k s b v z) 14 5 x = hV h k s b v x := by
  rw [up_setg]
  unfold hV
  rw [setg_s, setg_2]
  congr 1
  funext j
  unfold upd wJ
  by_cases e : j = 5 <;> simp [e]

theorem setg_hV {g : Nat} (n : g ≠ 14) (m : Rw) : setg (hV h k s b v z) g m = hV (setg h g m) k s b v z := by
  unfold hV
  rw [setg_c h (fun q => n q.symm), setg_n h m (fun q => n q.symm)]
theorem setg_hV14 (t : Rw) : setg (hV h k s b v z) 14 t = setg h 14 t := by
  unfold hV
  rw [setg_2]
end HV
/-- the texts by the reference's numbers -/
def ixW (w : Nat) : Nat := if w = 0 then 9 else if w < 7 then w + 2 else if w < 10 then w + 3 else w - 10
theorem ixW_lt {w : Nat} (h : w < 13) : ixW w < 13 := by
  unfold ixW
  split
  · omega
  · split
    · omega
    · split <;> omega
theorem nm_ok : ∀ w, w < 13 → (∀ j, j < txLen.getD (ixW w) 0 → nmes.getD (7 * w + j) 0 = txC (ixW w) j) ∧ (∀ j, j < 7 → txLen.getD (ixW w) 0 ≤ j → nmes.getD (7 * w + j) 0 = 0) := by decide +kernel
def mN (u : Rw) (s w : Nat) : Nat → Bool
  | 0 => true
  | j + 1 => mN u s w j && decide (nmes.getD (7 * w + j) 0 = u (10 + (s + j)))
def nm0 (w z : Nat) : Bool := decide (z ≤ 7) && (decide (z = 7) || decide (nmes.getD (7 * w + z) 0 = 0))
theorem mN_f {u : Rw} {s w k : Nat} (h : mN u s w k = false) : ∀ j, mN u s w (k + j) = false
  | 0 => h
  | j + 1 => by
    show (mN u s w (k + j) && _) = false
    rw [mN_f h j, Bool.false_and]
theorem mN_all {u : Rw} {s w : Nat} : ∀ {k : Nat}, mN u s w k = true ↔ ∀ j, j < k → nmes.getD (7 * w + j) 0 = u (10 + (s + j))
  | 0 => by simp [mN]
  | k + 1 => by
    rw [mN, Bool.and_eq_true, mN_all, decide_eq_true_eq]
    constructor
    · rintro ⟨a, b⟩ j hj
      rcases Nat.lt_or_ge j k with q | q
      · exact a j q
      · rw [show j = k by omega]; exact b
    · intro a
      exact ⟨fun j hj => a j (by omega), a k (by omega)⟩
theorem mtc_all {c : Nat → Nat} {s i : Nat} : ∀ {k : Nat}, mtc c s i k = true ↔ ∀ j, j < k → c (s + j) = chr i j
  | 0 => by simp [mtc]
  | k + 1 => by
    rw [mtc, Bool.and_eq_true, mtc_all, decide_eq_true_eq]
    constructor
    · rintro ⟨a, b⟩ j hj
      rcases Nat.lt_or_ge j k with q | q
      · exact a j q
      · rw [show j = k by omega]; exact b
    · intro a
      exact ⟨fun j hj => a j (by omega), a k (by omega)⟩
theorem nm_eq {u : Rw} {s w z : Nat} (hw : w < 13) (hl : ∀ j, j < z → kd (cM u (s + j)) = 1) : (nm0 w z && mN u s w z) = (decide (z = txLen.getD (ixW w) 0) && mtc (cM u) s (ixW w) (txLen.getD (ixW w) 0)) := by
  obtain ⟨n1, n2⟩ := nm_ok w hw
  have hi := ixW_lt hw
  have hs := tx_small _ hi
  refine beq_of ?_
  rw [Bool.and_eq_true, Bool.and_eq_true, mN_all, mtc_all, decide_eq_true_eq, nm0, Bool.and_eq_true, Bool.or_eq_true, decide_eq_true_eq, decide_eq_true_eq, decide_eq_true_eq]
  constructor
  · rintro ⟨⟨a1, a2⟩, a3⟩
    have ez : z = txLen.getD (ixW w) 0 := by
      rcases Nat.lt_trichotomy z (txLen.getD (ixW w) 0) with q | q | q
      · have e1 := n1 z q
        have e2 := chr_ok _ hi z q
        rcases a2 with a2 | a2
        · omega
        · rw [a2, e2.1] at e1
          have := (nI_eq (a := 0) (b := chr (ixW w) z) (by omega) (by omega)).mp e1
          omega
      · exact q
      · have e1 := n2 _ (by omega) (Nat.le_refl (txLen.getD (ixW w) 0))
        have e2 := a3 _ q
        have e3 := hl _ q
        rw [e1] at e2
        rw [cM, ← e2] at e3
        exact absurd e3 (by decide)
    refine ⟨ez, fun j hj => ?_⟩
    have e1 := a3 j (by omega)
    rw [n1 j hj] at e1
    have e2 := chr_ok _ hi j hj
    rw [e2.1] at e1
    exact (chM_eq (by omega) (by omega)).mp e1.symm
  · rintro ⟨ez, a⟩
    refine ⟨⟨by omega, Or.inr (n2 z (by omega) (by omega))⟩, fun j hj => ?_⟩
    have hj2 : j < txLen.getD (ixW w) 0 := by omega
    rw [n1 j hj2]
    have e2 := chr_ok _ hi j hj2
    rw [e2.1]
    exact ((chM_eq (by omega) (by omega)).mpr (a j hj2)).symm
def cdF (c : Nat → Nat) (q : Tk) : Nat → Nat → Nat
  | 0, _ => 23
  | f + 1, w => if isW c q (ixW w) = true then w else cdF c q f (w + 1)
def cod (c : Nat → Nat) (q : Tk) : Nat := if q.k = 0 then 22 else if q.k = 1 then cdF c q 13 0 else if q.k = 2 then 20 else if q.k = 3 then 21 else 23
theorem cdF_or (c : Nat → Nat) (q : Tk) : ∀ f w, cdF c q f w = 23 ∨ (w ≤ cdF c q f w ∧ cdF c q f w < w + f ∧ isW c q (ixW (cdF c q f w)) = true)
  | 0, w => Or.inl rfl
  | f + 1, w => by
    rw [cdF]
    by_cases e : isW c q (ixW w) = true
    · rw [if_pos e]; exact Or.inr ⟨Nat.le_refl _, by omega, e⟩
    · rw [if_neg e]
      rcases cdF_or c q f (w + 1) with h | ⟨h1, h2, h3⟩
      · exact Or.inl h
      · exact Or.inr ⟨by omega, by omega, h3⟩
theorem cdF_hit (c : Nat → Nat) (q : Tk) : ∀ f w x, w ≤ x → x < w + f → isW c q (ixW x) = true → ∃ y, y < w + f ∧ cdF c q f w = y ∧ isW c q (ixW y) = true
  | 0, w, x, h1, h2, _ => by omega
  | f + 1, w, x, h1, h2, h3 => by
    rw [cdF]
    by_cases e : isW c q (ixW w) = true
    · rw [if_pos e]; exact ⟨w, by omega, rfl, e⟩
    · rw [if_neg e]
      have hx : x ≠ w := fun z => e (z ▸ h3)
      obtain ⟨y, a, b, d⟩ := cdF_hit c q f (w + 1) x (by omega) (by omega) h3
      exact ⟨y, by omega, b, d⟩
theorem tx_one : ∀ i, i < 13 → ∀ j, j < 13 → txLen.getD i 0 = txLen.getD j 0 → (∀ t, t < txLen.getD i 0 → chr i t = chr j t) → i = j := by decide +kernel
theorem ixW_inj : ∀ i, i < 13 → ∀ j, j < 13 → ixW i = ixW j → i = j := by decide
theorem isW_k {c : Nat → Nat} {q : Tk} {i : Nat} (h : isW c q i = true) : q.k = 1 ∧ q.b - q.s = txLen.getD i 0 ∧ ∀ t, t < txLen.getD i 0 → c (q.s + t) = chr i t := by
  rw [isW, Bool.and_eq_true, Bool.and_eq_true, decide_eq_true_eq, decide_eq_true_eq, mtc_all] at h
  exact h
theorem isW_one {c : Nat → Nat} {q : Tk} {i j : Nat} (hi : i < 13) (hj : j < 13) (h1 : isW c q i = true) (h2 : isW c q j = true) : i = j := by
  have a := isW_k h1
  have b := isW_k h2
  exact tx_one i hi j hj (by omega) (fun t ht => by rw [← a.2.2 t ht]; exact b.2.2 t (by omega))
theorem cod_w {c : Nat → Nat} {q : Tk} {w : Nat} (hw : w < 13) : cod c q = w ↔ isW c q (ixW w) = true := by
  unfold cod
  constructor
  · intro h
    split at h
    · omega
    · split at h
      · rcases cdF_or c q 13 0 with z | ⟨z1, z2, z3⟩
        · omega
        · rw [h] at z3; exact z3
      · split at h
        · omega
        · split at h <;> omega
  · intro h
    have k1 := (isW_k h).1
    rw [if_neg (by omega), if_pos k1]
    obtain ⟨y, a, b, d⟩ := cdF_hit c q 13 0 w (by omega) (by omega) h
    rw [b]
    exact ixW_inj y (by omega) w hw (isW_one (ixW_lt (by omega)) (ixW_lt hw) d h)
theorem cod_20 {c : Nat → Nat} {q : Tk} : cod c q = 20 ↔ q.k = 2 := by
  unfold cod
  constructor
  · intro h
    split at h
    · omega
    · split at h
      · rcases cdF_or c q 13 0 with z | ⟨z1, z2, z3⟩ <;> omega
      · split at h
        · assumption
        · split at h <;> omega
  · intro h
    rw [if_neg (by omega), if_neg (by omega), if_pos h]
theorem cod_21 {c : Nat → Nat} {q : Tk} : cod c q = 21 ↔ q.k = 3 := by
  unfold cod
  constructor
  · intro h
    split at h
    · omega
    · split at h
      · rcases cdF_or c q 13 0 with z | ⟨z1, z2, z3⟩ <;> omega
      · split at h
        · omega
        · split at h
          · assumption
          · omega
  · intro h
    rw [if_neg (by omega), if_neg (by omega), if_neg (by omega), if_pos h]
theorem cod_22 {c : Nat → Nat} {q : Tk} : cod c q = 22 ↔ q.k = 0 := by
  unfold cod
  constructor
  · intro h
    split at h
    · assumption
    · split at h
      · rcases cdF_or c q 13 0 with z | ⟨z1, z2, z3⟩ <;> omega
      · split at h
        · omega
        · split at h <;> omega
  · intro h
    rw [if_pos h]
theorem cod_lt (c : Nat → Nat) (q : Tk) : cod c q < 24 := by
  unfold cod
  split
  · omega
  · split
    · rcases cdF_or c q 13 0 with z | ⟨z1, z2, z3⟩ <;> omega
    · split
      · omega
      · split <;> omega
theorem digit_m {x : Int32} {v : Nat} (hk : kd (chM x) = 2) : 10 * nI v + x - 48 = nI (10 * v + (chM x - 48)) := by
  have hx := (kd_eq2 _).mp hk
  have e : x = nI (chM x) := (chM_eq (by omega) (by omega)).mpr rfl
  have e2 : 10 * nI v + x = nI (10 * v + chM x) := by
    rw [show 10 * nI v + x = nI 10 * nI v + nI (chM x) from by rw [← e]; rfl, pk_mul, nI_add]
  rw [e2, show (48 : Int32) = nI 48 from rfl, pk_sub (by omega), show 10 * v + chM x - 48 = 10 * v + (chM x - 48) by omega]

