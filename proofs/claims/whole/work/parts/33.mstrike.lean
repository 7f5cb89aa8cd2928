set_option maxRecDepth 100000 in
set_option maxHeartbeats 4000000 in
theorem c_X3_strike {X : Sc} {h : Hp} (hI : In (h 1)) {g t n : Int32} : ∃ T : Rw, Ct X yX3_strike cX3_strike 7 (some .int) 6 [.ref 0, .int g, .int t, .int n] h (some (.int (oV (f_strike (h 1) g t n)))) (hQ h (f_strike (h 1) g t n) T) := by
  by_cases hP : (isG (h 1) g && inB t 0 11 && inB n 0 20) = true
  · have hP2 := hP
    rw [Bool.and_eq_true, Bool.and_eq_true] at hP2
    obtain ⟨e, le, he, te, rfl⟩ := isG_of2 hI hP2.1.1
    obtain ⟨j, hj, tj, rfl⟩ := inB_of 20 (by decide) hP2.2
    obtain ⟨T, q⟩ := l_X3_strike (X := X) hI he hj (t := t) (g0 := .null) (nD (h 1) + 1) 0 (by omega) rfl (h 3)
    have ef : f_strike (h 1) (nI e) t (nI j) = oF (h 1) (f1str (p_str (h 1) e j t) (2 ^ nD (h 1)) 0 (nD (h 1) + 1)) := by rw [f_strike, if_pos hP, te, tj]
    refine ⟨T, rfl, ?_⟩
    rw [← hQ_x h _ _ ef, ef]
    refine g_aload_n dX3_strike_0 rfl ?_
    refine g_getR dX3_strike_1 fl_X3_12 rfl rfl ?_
    refine g_iload_n dX3_strike_4 rfl ?_
    refine g_callV1i (c_X0_isGuest inn1) mi_X0_isGuest mv_X0_isGuest ml_X3_101 dX3_strike_5 rfl rfl (by decide) (Nat.le_of_ble_eq_true rfl) (Nat.le_of_ble_eq_true rfl) ?_
    refine g_if_eq 28 dX3_strike_8 (by decide) (fun c8 => ?_) (fun c8 => ?_)
    · exact absurd c8 (by rw [hP2.1.1]; decide)
    · refine g_iload_n dX3_strike_11 rfl ?_
      refine g_callS1i (c_X3_isTown) mi_X3_isTown ms_X3_isTown ml_X3_67 dX3_strike_12 (by decide) (Nat.le_of_ble_eq_true rfl) (Nat.le_of_ble_eq_true rfl) ?_
      refine g_if_eq 28 dX3_strike_15 (by decide) (fun c15 => ?_) (fun c15 => ?_)
      · exact absurd c15 (by rw [hP2.1.2]; decide)
      · refine g_iload_n dX3_strike_18 rfl ?_
        refine g_iconst dX3_strike_19 ic_0 ?_
        refine g_bipush dX3_strike_20 bp_20 ?_
        refine g_callS3i (c_X3_within) mi_X3_within ms_X3_within ml_X3_48 dX3_strike_22 (by decide) (Nat.le_of_ble_eq_true rfl) (Nat.le_of_ble_eq_true rfl) ?_
        refine g_if_ne 35 dX3_strike_25 (by decide) (fun c25 => ?_) (fun c25 => ?_)
        · refine g_iconst dX3_strike_35 ic_1 ?_
          refine g_aload_n dX3_strike_36 rfl ?_
          refine g_getR dX3_strike_37 fl_X3_12 rfl rfl ?_
          refine g_getI dX3_strike_40 fl_X3_70 rfl rfl ?_
          refine g_st (by rw [hI.nD.2]) ?_
          refine g_ishl dX3_strike_43 ?_
          refine g_st (st2 := [.int (nI (2 ^ nD (h 1)))]) (by rw [sh1 _ hI.nD.1]) ?_
          refine g_istore dX3_strike_44 (by decide) rfl ?_
          refine g_iconst dX3_strike_46 ic_0 ?_
          refine g_istore dX3_strike_47 (by decide) rfl ?_
          exact g_h (setg_id h 3).symm q
        · exact absurd c25 (by rw [hP2.2]; decide)
  · have ef : f_strike (h 1) g t n = .inl 0 := by rw [f_strike, if_neg hP]
    refine ⟨h 3, rfl, ?_⟩
    refine g_aload_n dX3_strike_0 rfl ?_
    refine g_getR dX3_strike_1 fl_X3_12 rfl rfl ?_
    refine g_iload_n dX3_strike_4 rfl ?_
    refine g_callV1i (c_X0_isGuest inn1) mi_X0_isGuest mv_X0_isGuest ml_X3_101 dX3_strike_5 rfl rfl (by decide) (Nat.le_of_ble_eq_true rfl) (Nat.le_of_ble_eq_true rfl) ?_
    refine g_if_eq 28 dX3_strike_8 (by decide) (fun c8 => ?_) (fun c8 => ?_)
    · refine g_aload_n dX3_strike_28 rfl ?_
      refine g_ldc dX3_strike_29 lc_X3_52 ?_
      refine g_callV1i (c_X3_found 0 (by decide) (by decide)) mi_X3_found mv_X3_found ml_X3_53 dX3_strike_31 rfl rfl (by decide) (Nat.le_of_ble_eq_true rfl) (Nat.le_of_ble_eq_true rfl) ?_
      exact g_ireturn dX3_strike_34 (by rw [ef]; decide) (hQ_0 h _ ef)
    · refine g_iload_n dX3_strike_11 rfl ?_
      refine g_callS1i (c_X3_isTown) mi_X3_isTown ms_X3_isTown ml_X3_67 dX3_strike_12 (by decide) (Nat.le_of_ble_eq_true rfl) (Nat.le_of_ble_eq_true rfl) ?_
      refine g_if_eq 28 dX3_strike_15 (by decide) (fun c15 => ?_) (fun c15 => ?_)
      · refine g_aload_n dX3_strike_28 rfl ?_
        refine g_ldc dX3_strike_29 lc_X3_52 ?_
        refine g_callV1i (c_X3_found 0 (by decide) (by decide)) mi_X3_found mv_X3_found ml_X3_53 dX3_strike_31 rfl rfl (by decide) (Nat.le_of_ble_eq_true rfl) (Nat.le_of_ble_eq_true rfl) ?_
        exact g_ireturn dX3_strike_34 (by rw [ef]; decide) (hQ_0 h _ ef)
      · refine g_iload_n dX3_strike_18 rfl ?_
        refine g_iconst dX3_strike_19 ic_0 ?_
        refine g_bipush dX3_strike_20 bp_20 ?_
        refine g_callS3i (c_X3_within) mi_X3_within ms_X3_within ml_X3_48 dX3_strike_22 (by decide) (Nat.le_of_ble_eq_true rfl) (Nat.le_of_ble_eq_true rfl) ?_
        refine g_if_ne 35 dX3_strike_25 (by decide) (fun c25 => ?_) (fun c25 => ?_)
        · exact absurd (by rw [nb0 c8, nb0 c15, nb0 c25]; rfl) hP
        · refine g_aload_n dX3_strike_28 rfl ?_
          refine g_ldc dX3_strike_29 lc_X3_52 ?_
          refine g_callV1i (c_X3_found 0 (by decide) (by decide)) mi_X3_found mv_X3_found ml_X3_53 dX3_strike_31 rfl rfl (by decide) (Nat.le_of_ble_eq_true rfl) (Nat.le_of_ble_eq_true rfl) ?_
          exact g_ireturn dX3_strike_34 (by rw [ef]; decide) (hQ_0 h _ ef)

/-! WHICH TO STRIKE OFF: the reference's way -/
def bstM (p : Nat → Bool) : Nat → Option Nat
  | 0 => none
  | n + 1 => match bstM p n with
    | none => if p n then some n else none
    | some b => if decide (pcN n < pcN b) && p n then some n else some b
/-- b is the best of the first n -/
def isB (p : Nat → Bool) (n b : Nat) : Prop := b < n ∧ p b = true ∧ ∀ x, x < n → p x = true → pcN b ≤ pcN x ∧ (pcN x = pcN b → b ≤ x)
theorem isB_1 {p : Nat → Bool} {n a b : Nat} (ha : isB p n a) (hb : isB p n b) : a = b := by
  have h1 := ha.2.2 b hb.1 hb.2.1
  have h2 := hb.2.2 a ha.1 ha.2.1
  have h3 : pcN a = pcN b := Nat.le_antisymm h1.1 h2.1
  exact Nat.le_antisymm (h1.2 h3.symm) (h2.2 h3)
theorem bstM_ok (p : Nat → Bool) : ∀ n, (bstM p n = none ∧ ∀ x, x < n → p x = false) ∨ ∃ b, bstM p n = some b ∧ isB p n b
  | 0 => Or.inl ⟨rfl, fun x h => absurd h (Nat.not_lt_zero x)⟩
  | n + 1 => by
    rcases bstM_ok p n with ⟨e, h⟩ | ⟨b, e, h⟩
    · unfold bstM
      rw [e]
      cases q : p n with
      | true =>
        refine Or.inr ⟨n, by simp, by omega, q, fun x hx px => ?_⟩
        rcases Nat.lt_or_ge x n with z | z
        · rw [h x z] at px; cases px
        · have : x = n := by omega
          subst this
          exact ⟨Nat.le_refl _, fun _ => Nat.le_refl _⟩
      | false =>
        refine Or.inl ⟨by simp, fun x hx => ?_⟩
        rcases Nat.lt_or_ge x n with z | z
        · exact h x z
        · rw [show x = n by omega]; exact q
    · unfold bstM
      rw [e]
      by_cases c : (decide (pcN n < pcN b) && p n) = true
      · have c2 := c
        rw [Bool.and_eq_true] at c2
        have c3 : pcN n < pcN b := of_decide_eq_true c2.1
        refine Or.inr ⟨n, by simp only [c]; rfl, by omega, c2.2, fun x hx px => ?_⟩
        rcases Nat.lt_or_ge x n with z | z
        · have := h.2.2 x z px
          exact ⟨by omega, fun q => by omega⟩
        · have : x = n := by omega
          subst this
          exact ⟨Nat.le_refl _, fun _ => Nat.le_refl _⟩
      · refine Or.inr ⟨b, by simp only [Bool.not_eq_true] at c; simp only [c]; rfl, Nat.lt_succ_of_lt h.1, h.2.1, fun x hx px => ?_⟩
        rcases Nat.lt_or_ge x n with z | z
        · exact h.2.2 x z px
        · have : x = n := by omega
          subst this
          rw [px, Bool.and_true] at c
          have c3 : ¬ pcN x < pcN b := fun q => c (decide_eq_true q)
          exact ⟨by omega, fun _ => Nat.le_of_lt h.1⟩
theorem bM_n0 {p : Nat → Bool} {k : Nat} (e : bstM p k = none) (h : p k = false) : bstM p (k + 1) = none := by
  rw [bstM, e]; simp [h]
theorem bM_n1 {p : Nat → Bool} {k : Nat} (e : bstM p k = none) (h : p k = true) : bstM p (k + 1) = some k := by
  rw [bstM, e]; simp [h]
theorem bM_y {p : Nat → Bool} {k b : Nat} (e : bstM p k = some b) (c : pcN k < pcN b) (h : p k = true) : bstM p (k + 1) = some k := by
  rw [bstM, e]; simp [h, c]
theorem bM_k {p : Nat → Bool} {k b : Nat} (e : bstM p k = some b) (c : ¬ pcN k < pcN b ∨ p k = false) : bstM p (k + 1) = some b := by
  rw [bstM, e]
  rcases c with c | c
  · simp only [decide_eq_false c, Bool.false_and]; rfl
  · simp only [c, Bool.and_false]; rfl
theorem fst_ok {p : Nat → Bool} : ∀ (n k : Nat), (fst1 p k n = none ∧ ∀ x, k ≤ x → x < k + n → p x = false) ∨ ∃ b, fst1 p k n = some b ∧ k ≤ b ∧ b < k + n ∧ p b = true ∧ ∀ x, k ≤ x → x < b → p x = false
  | 0, k => Or.inl ⟨rfl, fun x h1 h2 => by omega⟩
  | n + 1, k => by
    unfold fst1
    cases q : p k with
    | true => exact Or.inr ⟨k, by simp, Nat.le_refl _, by omega, q, fun x h1 h2 => by omega⟩
    | false =>
      rcases fst_ok n (k + 1) with ⟨e, h⟩ | ⟨b, e, h1, h2, h3, h4⟩
      · refine Or.inl ⟨by simpa using e, fun x a b => ?_⟩
        rcases Nat.lt_or_ge k x with z | z
        · exact h x z (by omega)
        · rw [show x = k by omega]; exact q
      · refine Or.inr ⟨b, by simpa using e, by omega, by omega, h3, fun x a c => ?_⟩
        rcases Nat.lt_or_ge k x with z | z
        · exact h4 x z c
        · rw [show x = k by omega]; exact q
theorem f1_ok (p : Nat → Bool) (N : Nat) : ∀ (k z : Nat), (∀ x, x < N → p x = true → z ≤ pcN x) → (f1str p N z k = none ∧ ∀ x, x < N → p x = true → z + k ≤ pcN x) ∨ ∃ b, f1str p N z k = some b ∧ isB p N b
  | 0, z, h => Or.inl ⟨rfl, h⟩
  | k + 1, z, h => by
    rcases fst_ok (p := fun x => decide (pcN x = z) && p x) N 0 with ⟨e, q⟩ | ⟨b, e, h1, h2, h3, h4⟩
    · unfold f1str
      rw [e]
      have h2 : ∀ x, x < N → p x = true → z + 1 ≤ pcN x := by
        intro x hx px
        have a := q x (Nat.zero_le _) (by omega)
        simp only [px, Bool.and_true, decide_eq_false_iff_not] at a
        have := h x hx px
        omega
      rcases f1_ok p N k (z + 1) h2 with ⟨e2, q2⟩ | q2
      · exact Or.inl ⟨e2, fun x hx px => by have := q2 x hx px; omega⟩
      · exact Or.inr q2
    · unfold f1str
      rw [e]
      rw [Bool.and_eq_true] at h3
      have hz : pcN b = z := of_decide_eq_true h3.1
      refine Or.inr ⟨b, rfl, by omega, h3.2, fun x hx px => ⟨by have := h x hx px; omega, fun ez => ?_⟩⟩
      rcases Nat.lt_or_ge x b with y | y
      · have a := h4 x (Nat.zero_le _) y
        simp only [px, Bool.and_true, decide_eq_false_iff_not] at a
        exact absurd (by omega) a
      · exact y
theorem str_eq {p : Nat → Bool} {D : Nat} (hD : D ≤ 8) : f1str p (2 ^ D) 0 (D + 1) = bstM p (2 ^ D) := by
  rcases f1_ok p (2 ^ D) (D + 1) 0 (fun _ _ _ => Nat.zero_le _) with ⟨e, h⟩ | ⟨b, e, h⟩
  · rcases bstM_ok p (2 ^ D) with ⟨e2, h2⟩ | ⟨b, e2, h2⟩
    · rw [e, e2]
    · have := h b h2.1 h2.2.1
      have := pc_le D hD b h2.1
      omega
  · rcases bstM_ok p (2 ^ D) with ⟨e2, h2⟩ | ⟨b2, e2, h2⟩
    · have := h2 b h.1
      rw [h.2.1] at this
      cases this
    · rw [e, e2, isB_1 h h2]
theorem bt_step : ∀ x, x < 256 → 0 < x → nI x &&& (nI x - 1) = nI (x &&& (x - 1)) ∧ pcN x = pcN (x &&& (x - 1)) + 1 ∧ x &&& (x - 1) < x := by decide +kernel
set_option maxRecDepth 100000 in
set_option maxHeartbeats 4000000 in
theorem l_X4_bits {X : Sc} {h : Hp} {s : Int32} : ∀ (x c : Nat), x < 256 → c + pcN x ≤ 8 → Go X RX4 cX4_bits 3 0 4 [.int s, .int (nI c), .int (nI x)] [] h (some (.int (nI (c + pcN x)))) h := by
  intro x
  induction x using Nat.strongRecOn with
  | _ x ih =>
    intro c hx hc
    by_cases x0 : x = 0
    · subst x0
      refine g_iload_n dX4_bits_4 rfl ?_
      refine g_if_eq 20 dX4_bits_5 (by decide) (fun c5 => ?_) (fun c5 => ?_)
      · refine g_iload_n dX4_bits_20 rfl ?_
        exact g_ireturn dX4_bits_21 rfl rfl
      · exact absurd rfl c5
    · obtain ⟨b1, b2, b3⟩ := bt_step x hx (by omega)
      refine g_iload_n dX4_bits_4 rfl ?_
      refine g_if_eq 20 dX4_bits_5 (by decide) (fun c5 => ?_) (fun c5 => ?_)
      · exact absurd c5 (nI_ne0 (by omega) (by omega))
      · refine g_iinc dX4_bits_8 rfl (ii_n _) (by decide) rfl ?_
        refine g_iload_n dX4_bits_11 rfl ?_
        refine g_iload_n dX4_bits_12 rfl ?_
        refine g_iconst dX4_bits_13 ic_1 ?_
        refine g_isub dX4_bits_14 ?_
        refine g_iand dX4_bits_15 ?_
        refine g_st (st2 := [.int (nI (x &&& (x - 1)))]) (by rw [b1]) ?_
        refine g_istore_n dX4_bits_16 (by decide) rfl ?_
        refine g_goto 4 dX4_bits_17 (by decide) ?_
        rw [b2, show c + (pcN (x &&& (x - 1)) + 1) = c + 1 + pcN (x &&& (x - 1)) by omega]
        exact ih (x &&& (x - 1)) b3 (c + 1) (by omega) (by omega)

set_option maxRecDepth 100000 in
set_option maxHeartbeats 4000000 in
theorem c_X4_bits {X : Sc} {h : Hp} {x : Nat} (hx : x < 256) : Ct X yX4_bits cX4_bits 3 (some .int) 0 [.int (nI x)] h (some (.int (nI (pcN x)))) h := by
  refine ⟨rfl, ?_⟩
  refine g_iconst dX4_bits_0 ic_0 ?_
  refine g_istore_n dX4_bits_1 (by decide) rfl ?_
  refine g_iload_n dX4_bits_2 rfl ?_
  refine g_istore_n dX4_bits_3 (by decide) rfl ?_
  have q := l_X4_bits (X := X) (h := h) (s := nI x) x 0 hx (by have := pc_8 x hx; omega)
  rw [Nat.zero_add] at q
  exact q

theorem or_bit {m : Rw} (h : In m) {s k : Nat} (hs : s < 256) (hk : k < 8) : pD m k 5 (dF m k 5 ||| ((nI s >>> (nI k &&& 31)) &&& 1)) = if bitB s k = true then pD m k 5 1 else m := by
  rw [bit_v s hs k hk]
  rcases h.off hk with o5 | o5
  · by_cases c : bitB s k = true
    · rw [if_pos c, if_pos c, o5]; rfl
    · rw [if_neg c, if_neg c, Int32.or_zero]; exact upd_id _ _
  · by_cases c : bitB s k = true
    · rw [if_pos c, if_pos c, o5]; rfl
    · rw [if_neg c, if_neg c, Int32.or_zero]; exact upd_id _ _
set_option maxRecDepth 100000 in
set_option maxHeartbeats 4000000 in
theorem l_X4_isElsewhere {X : Sc} {h : Hp} (hI : In (h 11)) {e n s : Nat} (he : e < 6) (hn : n ≤ 20) (hs : s < 256) {t : Int32} : ∀ k, k ≤ nD (h 11) → Go X RX4 cX4_isElsewhere 6 6 3 [.ref 28, .int (nI s), .int (nI e), .int t, .int (nI n), .int (nI k)] [] (setg h 11 (strk (h 11) s k)) (some (.int (bI (p_str (h 11) e n t s)))) (setg h 11 (h 13)) := by
  have hN := hI.nD.1
  refine loop_up (nD (h 11)) ?_ ?_
  · refine g_iload dX4_isElsewhere_3 rfl ?_
    refine g_aload_n dX4_isElsewhere_5 rfl ?_
    refine g_getR dX4_isElsewhere_6 fl_X4_9 rfl rfl ?_
    refine g_iconst dX4_isElsewhere_9 ic_2 ?_
    refine g_iald0 2 dX4_isElsewhere_10 rfl rfl (by decide) ?_
    refine g_st (by rw [setg_s, show strk (h 11) s (nD (h 11)) 2 = nI (nD (strk (h 11) s (nD (h 11)))) from (hI.strk s _ (by omega)).nD.2, nD_strk]) ?_
    refine g_icmp_ge 41 dX4_isElsewhere_11 (by decide) (fun c11 => ?_) (fun c11 => ?_)
    · refine g_aload_n dX4_isElsewhere_41 rfl ?_
      refine g_iload dX4_isElsewhere_42 rfl ?_
      refine g_callV1v (c_X4_goesFor (by rw [setg_s]; exact hI.strk s _ (by omega)) (by omega)) mi_X4_goesFor mv_X4_goesFor ml_X4_114 dX4_isElsewhere_44 rfl rfl (by decide) (Nat.le_of_ble_eq_true rfl) (Nat.le_of_ble_eq_true rfl) ?_
      refine g_h (h2 := setg h 11 (daysR (strk (h 11) s (nD (h 11))) n)) (by rw [setg_s, setg_2]) ?_
      refine g_aload_n dX4_isElsewhere_47 rfl ?_
      refine g_iload_n dX4_isElsewhere_48 rfl ?_
      refine g_iconst dX4_isElsewhere_49 ic_1 ?_
      refine g_callV2i (c_X4_his (w := 1) he (by decide)) mi_X4_his mv_X4_his ml_X4_44 dX4_isElsewhere_50 rfl rfl (by decide) (Nat.le_of_ble_eq_true rfl) (Nat.le_of_ble_eq_true rfl) ?_
      refine g_iload_n dX4_isElsewhere_53 rfl ?_
      refine g_icmp_eq 61 dX4_isElsewhere_54 (by decide) (fun c54 => ?_) (fun c54 => ?_)
      · refine g_iconst dX4_isElsewhere_61 ic_0 ?_
        refine g_istore dX4_isElsewhere_62 (by decide) rfl ?_
        refine g_aload_n dX4_isElsewhere_64 rfl ?_
        refine g_callV0v (c_X4_putsBack) mi_X4_putsBack mv_X4_putsBack ml_X4_147 dX4_isElsewhere_65 rfl rfl (by decide) (Nat.le_of_ble_eq_true rfl) (Nat.le_of_ble_eq_true rfl) ?_
        refine g_iload dX4_isElsewhere_68 rfl ?_
        exact g_ireturn dX4_isElsewhere_70 (by rw [setg_s] at c54; simp [p_str, c54, bI]) (by rw [setg_2, setg_n _ _ (by decide)])
      · refine g_iconst dX4_isElsewhere_57 ic_1 ?_
        refine g_goto 62 dX4_isElsewhere_58 (by decide) ?_
        refine g_istore dX4_isElsewhere_62 (by decide) rfl ?_
        refine g_aload_n dX4_isElsewhere_64 rfl ?_
        refine g_callV0v (c_X4_putsBack) mi_X4_putsBack mv_X4_putsBack ml_X4_147 dX4_isElsewhere_65 rfl rfl (by decide) (Nat.le_of_ble_eq_true rfl) (Nat.le_of_ble_eq_true rfl) ?_
        refine g_iload dX4_isElsewhere_68 rfl ?_
        exact g_ireturn dX4_isElsewhere_70 (by rw [setg_s] at c54; simp [p_str, c54, bI]) (by rw [setg_2, setg_n _ _ (by decide)])
    · exact absurd (nI_le (Nat.le_refl _) (by omega)) c11
  · intro k hk ih
    refine g_iload dX4_isElsewhere_3 rfl ?_
    refine g_aload_n dX4_isElsewhere_5 rfl ?_
    refine g_getR dX4_isElsewhere_6 fl_X4_9 rfl rfl ?_
    refine g_iconst dX4_isElsewhere_9 ic_2 ?_
    refine g_iald0 2 dX4_isElsewhere_10 rfl rfl (by decide) ?_
    refine g_st (by rw [setg_s, show strk (h 11) s k 2 = nI (nD (strk (h 11) s k)) from (hI.strk s k (by omega)).nD.2, nD_strk]) ?_
    refine g_icmp_ge 41 dX4_isElsewhere_11 (by decide) (fun c11 => ?_) (fun c11 => ?_)
    · exact absurd c11 (nI_ge hk (by omega))
    · refine g_aload_n dX4_isElsewhere_14 rfl ?_
      refine g_iload dX4_isElsewhere_15 rfl ?_
      refine g_iconst dX4_isElsewhere_17 ic_5 ?_
      refine g_aload_n dX4_isElsewhere_18 rfl ?_
      refine g_iload dX4_isElsewhere_19 rfl ?_
      refine g_iconst dX4_isElsewhere_21 ic_5 ?_
      refine g_callV2i (c_X4_it (w := 5) (by omega) (by decide)) mi_X4_it mv_X4_it ml_X4_48 dX4_isElsewhere_22 rfl rfl (by decide) (Nat.le_of_ble_eq_true rfl) (Nat.le_of_ble_eq_true rfl) ?_
      refine g_iload_n dX4_isElsewhere_25 rfl ?_
      refine g_iload dX4_isElsewhere_26 rfl ?_
      refine g_ishr dX4_isElsewhere_28 ?_
      refine g_iconst dX4_isElsewhere_29 ic_1 ?_
      refine g_iand dX4_isElsewhere_30 ?_
      refine g_ior dX4_isElsewhere_31 ?_
      refine g_callV3v (c_X4_put (w := 5) (by omega) (by decide)) mi_X4_put mv_X4_put ml_X4_62 dX4_isElsewhere_32 rfl rfl (by decide) (Nat.le_of_ble_eq_true rfl) (Nat.le_of_ble_eq_true rfl) ?_
      refine g_iinc dX4_isElsewhere_35 rfl (ii_n _) (by decide) rfl ?_
      refine g_goto 3 dX4_isElsewhere_38 (by decide) ?_
      exact g_h (by rw [setg_s, setg_2, or_bit (hI.strk s k (by omega)) hs (by omega)]; rfl) ih

set_option maxRecDepth 100000 in
set_option maxHeartbeats 4000000 in
theorem c_X4_isElsewhere {X : Sc} {h : Hp} (hI : In (h 11)) {e n s : Nat} (he : e < 6) (hn : n ≤ 20) (hs : s < 256) {t : Int32} : Ct X yX4_isElsewhere cX4_isElsewhere 6 (some .boolean) 6 [.ref 28, .int (nI s), .int (nI e), .int t, .int (nI n)] h (some (.int (bI (p_str (h 11) e n t s)))) (setg h 11 (h 13)) := by
  refine ⟨rok_b _, ?_⟩
  refine g_iconst dX4_isElsewhere_0 ic_0 ?_
  refine g_istore dX4_isElsewhere_1 (by decide) rfl ?_
  exact g_h (setg_id h 11).symm (l_X4_isElsewhere hI he hn hs 0 (Nat.zero_le _))

def oN (q : Option Nat) : Int32 := match q with | some b => nI b | none => -1
theorem bst_lt2 {p : Nat → Bool} {n b : Nat} (h : bstM p n = some b) : b < n := by
  rcases bstM_ok p n with ⟨q1, _⟩ | ⟨c, q1, q2⟩
  · rw [q1] at h; cases h
  · rw [q1] at h; cases h; exact q2.1
set_option maxRecDepth 100000 in
set_option maxHeartbeats 4000000 in
theorem l_X4_strike {X : Sc} {h : Hp} (hI : In (h 11)) {e n : Nat} (he : e < 6) (hn : n ≤ 20) {t : Int32} : ∀ k, k ≤ 2 ^ nD (h 11) → Go X RX4 cX4_strike 7 7 42 [.ref 28, .int (nI e), .int t, .int (nI n), .int (oN (bstM (p_str (h 11) e n t) k)), .int (nI k), .null] [] (setg h 13 (h 11)) (some (.int (oV (oF (h 11) (bstM (p_str (h 11) e n t) (2 ^ nD (h 11))))))) (oXM h (bstM (p_str (h 11) e n t) (2 ^ nD (h 11)))) := by
  have hN := p2_le hI.nD.1
  refine loop_up (2 ^ nD (h 11)) ?_ ?_
  · refine g_iload dX4_strike_42 rfl ?_
    refine g_iconst dX4_strike_44 ic_1 ?_
    refine g_aload_n dX4_strike_45 rfl ?_
    refine g_getR dX4_strike_46 fl_X4_9 rfl rfl ?_
    refine g_iconst dX4_strike_49 ic_2 ?_
    refine g_iald0 2 dX4_strike_50 rfl rfl (by decide) ?_
    refine g_st (by rw [setg_n _ _ (by decide), hI.nD.2]) ?_
    refine g_ishl dX4_strike_51 ?_
    refine g_st (by rw [sh1 _ hI.nD.1]) ?_
    refine g_icmp_ge 112 dX4_strike_52 (by decide) (fun c52 => ?_) (fun c52 => ?_)
    · cases eq : bstM (p_str (h 11) e n t) (2 ^ nD (h 11)) with
      | none =>
        refine g_aload_n dX4_strike_112 rfl ?_
        refine g_iload dX4_strike_113 rfl ?_
        refine g_callV1i c_X4_orNone_n mi_X4_orNone mv_X4_orNone ml_X4_157 dX4_strike_115 rfl rfl (by decide) (Nat.le_of_ble_eq_true rfl) (Nat.le_of_ble_eq_true rfl) ?_
        exact g_ireturn dX4_strike_118 rfl rfl
      | some b =>
        have b2 := bst_lt2 eq
        refine g_aload_n dX4_strike_112 rfl ?_
        refine g_iload dX4_strike_113 rfl ?_
        refine g_callV1i (c_X4_orNone_v (n := b) (by omega)) mi_X4_orNone mv_X4_orNone ml_X4_157 dX4_strike_115 rfl rfl (by decide) (Nat.le_of_ble_eq_true rfl) (Nat.le_of_ble_eq_true rfl) ?_
        exact g_ireturn dX4_strike_118 rfl rfl
    · exact absurd (nI_le (Nat.le_refl _) (by omega)) c52
  · intro k hk ih
    refine g_iload dX4_strike_42 rfl ?_
    refine g_iconst dX4_strike_44 ic_1 ?_
    refine g_aload_n dX4_strike_45 rfl ?_
    refine g_getR dX4_strike_46 fl_X4_9 rfl rfl ?_
    refine g_iconst dX4_strike_49 ic_2 ?_
    refine g_iald0 2 dX4_strike_50 rfl rfl (by decide) ?_
    refine g_st (by rw [setg_n _ _ (by decide), hI.nD.2]) ?_
    refine g_ishl dX4_strike_51 ?_
    refine g_st (by rw [sh1 _ hI.nD.1]) ?_
    refine g_icmp_ge 112 dX4_strike_52 (by decide) (fun c52 => ?_) (fun c52 => ?_)
    · exact absurd c52 (nI_ge hk (by omega))
    · refine g_iload dX4_strike_55 rfl ?_
      refine g_if_lt 73 dX4_strike_57 (by decide) (fun c57 => ?_) (fun c57 => ?_)
      · refine g_iconst dX4_strike_73 ic_1 ?_
        refine g_goto 78 dX4_strike_74 (by decide) ?_
        refine g_istore dX4_strike_78 (by decide) rfl ?_
        refine g_iload dX4_strike_80 rfl ?_
        refine g_if_eq 102 dX4_strike_82 (by decide) (fun c82 => ?_) (fun c82 => ?_)
        · first
          | exact absurd c82 (by decide)
          | (refine g_iload dX4_strike_102 rfl ?_
             refine g_istore dX4_strike_104 (by decide) rfl ?_
             refine g_iinc dX4_strike_106 rfl (ii_n _) (by decide) rfl ?_
             refine g_goto 42 dX4_strike_109 (by decide) ?_
             refine g_mask [true, true, true, true, true, true, false] ?_
             refine g_lv ?_ ih
             first
             | (have en : bstM (p_str (h 11) e n t) k = none := by
                  rcases bstM_ok (p_str (h 11) e n t) k with ⟨q1, _⟩ | ⟨b, q1, _⟩
                  · exact q1
                  · rw [q1] at c57; have := bst_lt2 q1; exact absurd c57 (nI_pos (by omega))
                first
                | (rw [bM_n0 en (b0 c94), en]; rfl)
                | (rw [bM_n1 en (nb0 c94)]; rfl))
             | (have cp : pcN k < pcN b := by
                  have := Int32.not_le.mp c70
                  exact (nI_ltI (by have := pc_8 k (by omega); omega) (by have := pc_8 b (by omega); omega)).mp this
                first
                | (rw [bM_k eb (Or.inr (b0 c94)), eb]; rfl)
                | (rw [bM_y eb cp (nb0 c94)]; rfl))
             | (have cp : ¬ pcN k < pcN b := fun q => absurd (nI_lt q (by have := pc_8 b (by omega); omega)) (Int32.not_lt.mpr c70)
                rw [bM_k eb (Or.inl cp), eb]
                rfl))
        · first
          | exact absurd rfl c82
          | (refine g_aload_n dX4_strike_85 rfl ?_
             refine g_iload dX4_strike_86 rfl ?_
             refine g_iload_n dX4_strike_88 rfl ?_
             refine g_iload_n dX4_strike_89 rfl ?_
             refine g_iload_n dX4_strike_90 rfl ?_
             refine g_callV4i (c_X4_isElsewhere (by rw [setg_n _ _ (by decide)]; exact hI) he hn (by omega)) mi_X4_isElsewhere mv_X4_isElsewhere ml_X4_167 dX4_strike_91 rfl rfl (by decide) (Nat.le_of_ble_eq_true rfl) (Nat.le_of_ble_eq_true rfl) ?_
             refine g_h (h2 := setg h 13 (h 11)) (by rw [setg_s]; exact think1 h) ?_
             refine g_st (st2 := [.int (bI (p_str (h 11) e n t k))]) (by rw [setg_n _ _ (by decide)]) ?_
             refine g_if_eq 102 dX4_strike_94 (by decide) (fun c94 => ?_) (fun c94 => ?_)
             · first
               | exact absurd c82 (by decide)
               | (refine g_iload dX4_strike_102 rfl ?_
                  refine g_istore dX4_strike_104 (by decide) rfl ?_
                  refine g_iinc dX4_strike_106 rfl (ii_n _) (by decide) rfl ?_
                  refine g_goto 42 dX4_strike_109 (by decide) ?_
                  refine g_mask [true, true, true, true, true, true, false] ?_
                  refine g_lv ?_ ih
                  first
                  | (have en : bstM (p_str (h 11) e n t) k = none := by
                       rcases bstM_ok (p_str (h 11) e n t) k with ⟨q1, _⟩ | ⟨b, q1, _⟩
                       · exact q1
                       · rw [q1] at c57; have := bst_lt2 q1; exact absurd c57 (nI_pos (by omega))
                     first
                     | (rw [bM_n0 en (b0 c94), en]; rfl)
                     | (rw [bM_n1 en (nb0 c94)]; rfl))
                  | (have cp : pcN k < pcN b := by
                       have := Int32.not_le.mp c70
                       exact (nI_ltI (by have := pc_8 k (by omega); omega) (by have := pc_8 b (by omega); omega)).mp this
                     first
                     | (rw [bM_k eb (Or.inr (b0 c94)), eb]; rfl)
                     | (rw [bM_y eb cp (nb0 c94)]; rfl))
                  | (have cp : ¬ pcN k < pcN b := fun q => absurd (nI_lt q (by have := pc_8 b (by omega); omega)) (Int32.not_lt.mpr c70)
                     rw [bM_k eb (Or.inl cp), eb]
                     rfl))
             · refine g_iload dX4_strike_97 rfl ?_
               refine g_goto 104 dX4_strike_99 (by decide) ?_
               refine g_istore dX4_strike_104 (by decide) rfl ?_
               refine g_iinc dX4_strike_106 rfl (ii_n _) (by decide) rfl ?_
               refine g_goto 42 dX4_strike_109 (by decide) ?_
               refine g_mask [true, true, true, true, true, true, false] ?_
               refine g_lv ?_ ih
               first
               | (have en : bstM (p_str (h 11) e n t) k = none := by
                    rcases bstM_ok (p_str (h 11) e n t) k with ⟨q1, _⟩ | ⟨b, q1, _⟩
                    · exact q1
                    · rw [q1] at c57; have := bst_lt2 q1; exact absurd c57 (nI_pos (by omega))
                  first
                  | (rw [bM_n0 en (b0 c94), en]; rfl)
                  | (rw [bM_n1 en (nb0 c94)]; rfl))
               | (have cp : pcN k < pcN b := by
                    have := Int32.not_le.mp c70
                    exact (nI_ltI (by have := pc_8 k (by omega); omega) (by have := pc_8 b (by omega); omega)).mp this
                  first
                  | (rw [bM_k eb (Or.inr (b0 c94)), eb]; rfl)
                  | (rw [bM_y eb cp (nb0 c94)]; rfl))
               | (have cp : ¬ pcN k < pcN b := fun q => absurd (nI_lt q (by have := pc_8 b (by omega); omega)) (Int32.not_lt.mpr c70)
                  rw [bM_k eb (Or.inl cp), eb]
                  rfl))
      · obtain ⟨b, eb, hb⟩ : ∃ b, bstM (p_str (h 11) e n t) k = some b ∧ isB (p_str (h 11) e n t) k b := by
          rcases bstM_ok (p_str (h 11) e n t) k with ⟨q1, _⟩ | q
          · rw [q1] at c57; exact absurd (by decide) c57
          · exact q
        have b2 := hb.1
        refine g_iload dX4_strike_60 rfl ?_
        refine g_callS1i (c_X4_bits (by omega)) mi_X4_bits ms_X4_bits ml_X4_164 dX4_strike_62 (by decide) (Nat.le_of_ble_eq_true rfl) (Nat.le_of_ble_eq_true rfl) ?_
        refine g_iload dX4_strike_65 rfl ?_
        refine g_st (st2 := [.int (nI b), .int (nI (pcN k))]) (by rw [eb]; rfl) ?_
        refine g_callS1i (c_X4_bits (by omega)) mi_X4_bits ms_X4_bits ml_X4_164 dX4_strike_67 (by decide) (Nat.le_of_ble_eq_true rfl) (Nat.le_of_ble_eq_true rfl) ?_
        refine g_icmp_ge 77 dX4_strike_70 (by decide) (fun c70 => ?_) (fun c70 => ?_)
        · refine g_iconst dX4_strike_77 ic_0 ?_
          refine g_istore dX4_strike_78 (by decide) rfl ?_
          refine g_iload dX4_strike_80 rfl ?_
          refine g_if_eq 102 dX4_strike_82 (by decide) (fun c82 => ?_) (fun c82 => ?_)
          · first
            | exact absurd c82 (by decide)
            | (refine g_iload dX4_strike_102 rfl ?_
               refine g_istore dX4_strike_104 (by decide) rfl ?_
               refine g_iinc dX4_strike_106 rfl (ii_n _) (by decide) rfl ?_
               refine g_goto 42 dX4_strike_109 (by decide) ?_
               refine g_mask [true, true, true, true, true, true, false] ?_
               refine g_lv ?_ ih
               first
               | (have en : bstM (p_str (h 11) e n t) k = none := by
                    rcases bstM_ok (p_str (h 11) e n t) k with ⟨q1, _⟩ | ⟨b, q1, _⟩
                    · exact q1
                    · rw [q1] at c57; have := bst_lt2 q1; exact absurd c57 (nI_pos (by omega))
                  first
                  | (rw [bM_n0 en (b0 c94), en]; rfl)
                  | (rw [bM_n1 en (nb0 c94)]; rfl))
               | (have cp : pcN k < pcN b := by
                    have := Int32.not_le.mp c70
                    exact (nI_ltI (by have := pc_8 k (by omega); omega) (by have := pc_8 b (by omega); omega)).mp this
                  first
                  | (rw [bM_k eb (Or.inr (b0 c94)), eb]; rfl)
                  | (rw [bM_y eb cp (nb0 c94)]; rfl))
               | (have cp : ¬ pcN k < pcN b := fun q => absurd (nI_lt q (by have := pc_8 b (by omega); omega)) (Int32.not_lt.mpr c70)
                  rw [bM_k eb (Or.inl cp), eb]
                  rfl))
          · first
            | exact absurd rfl c82
            | (refine g_aload_n dX4_strike_85 rfl ?_
               refine g_iload dX4_strike_86 rfl ?_
               refine g_iload_n dX4_strike_88 rfl ?_
               refine g_iload_n dX4_strike_89 rfl ?_
               refine g_iload_n dX4_strike_90 rfl ?_
               refine g_callV4i (c_X4_isElsewhere (by rw [setg_n _ _ (by decide)]; exact hI) he hn (by omega)) mi_X4_isElsewhere mv_X4_isElsewhere ml_X4_167 dX4_strike_91 rfl rfl (by decide) (Nat.le_of_ble_eq_true rfl) (Nat.le_of_ble_eq_true rfl) ?_
               refine g_h (h2 := setg h 13 (h 11)) (by rw [setg_s]; exact think1 h) ?_
               refine g_st (st2 := [.int (bI (p_str (h 11) e n t k))]) (by rw [setg_n _ _ (by decide)]) ?_
               refine g_if_eq 102 dX4_strike_94 (by decide) (fun c94 => ?_) (fun c94 => ?_)
               · first
                 | exact absurd c82 (by decide)
                 | (refine g_iload dX4_strike_102 rfl ?_
                    refine g_istore dX4_strike_104 (by decide) rfl ?_
                    refine g_iinc dX4_strike_106 rfl (ii_n _) (by decide) rfl ?_
                    refine g_goto 42 dX4_strike_109 (by decide) ?_
                    refine g_mask [true, true, true, true, true, true, false] ?_
                    refine g_lv ?_ ih
                    first
                    | (have en : bstM (p_str (h 11) e n t) k = none := by
                         rcases bstM_ok (p_str (h 11) e n t) k with ⟨q1, _⟩ | ⟨b, q1, _⟩
                         · exact q1
                         · rw [q1] at c57; have := bst_lt2 q1; exact absurd c57 (nI_pos (by omega))
                       first
                       | (rw [bM_n0 en (b0 c94), en]; rfl)
                       | (rw [bM_n1 en (nb0 c94)]; rfl))
                    | (have cp : pcN k < pcN b := by
                         have := Int32.not_le.mp c70
                         exact (nI_ltI (by have := pc_8 k (by omega); omega) (by have := pc_8 b (by omega); omega)).mp this
                       first
                       | (rw [bM_k eb (Or.inr (b0 c94)), eb]; rfl)
                       | (rw [bM_y eb cp (nb0 c94)]; rfl))
                    | (have cp : ¬ pcN k < pcN b := fun q => absurd (nI_lt q (by have := pc_8 b (by omega); omega)) (Int32.not_lt.mpr c70)
                       rw [bM_k eb (Or.inl cp), eb]
                       rfl))
               · refine g_iload dX4_strike_97 rfl ?_
                 refine g_goto 104 dX4_strike_99 (by decide) ?_
                 refine g_istore dX4_strike_104 (by decide) rfl ?_
                 refine g_iinc dX4_strike_106 rfl (ii_n _) (by decide) rfl ?_
                 refine g_goto 42 dX4_strike_109 (by decide) ?_
                 refine g_mask [true, true, true, true, true, true, false] ?_
                 refine g_lv ?_ ih
                 first
                 | (have en : bstM (p_str (h 11) e n t) k = none := by
                      rcases bstM_ok (p_str (h 11) e n t) k with ⟨q1, _⟩ | ⟨b, q1, _⟩
                      · exact q1
                      · rw [q1] at c57; have := bst_lt2 q1; exact absurd c57 (nI_pos (by omega))
                    first
                    | (rw [bM_n0 en (b0 c94), en]; rfl)
                    | (rw [bM_n1 en (nb0 c94)]; rfl))
                 | (have cp : pcN k < pcN b := by
                      have := Int32.not_le.mp c70
                      exact (nI_ltI (by have := pc_8 k (by omega); omega) (by have := pc_8 b (by omega); omega)).mp this
                    first
                    | (rw [bM_k eb (Or.inr (b0 c94)), eb]; rfl)
                    | (rw [bM_y eb cp (nb0 c94)]; rfl))
                 | (have cp : ¬ pcN k < pcN b := fun q => absurd (nI_lt q (by have := pc_8 b (by omega); omega)) (Int32.not_lt.mpr c70)
                    rw [bM_k eb (Or.inl cp), eb]
                    rfl))
        · refine g_iconst dX4_strike_73 ic_1 ?_
          refine g_goto 78 dX4_strike_74 (by decide) ?_
          refine g_istore dX4_strike_78 (by decide) rfl ?_
          refine g_iload dX4_strike_80 rfl ?_
          refine g_if_eq 102 dX4_strike_82 (by decide) (fun c82 => ?_) (fun c82 => ?_)
          · first
            | exact absurd c82 (by decide)
            | (refine g_iload dX4_strike_102 rfl ?_
               refine g_istore dX4_strike_104 (by decide) rfl ?_
               refine g_iinc dX4_strike_106 rfl (ii_n _) (by decide) rfl ?_
               refine g_goto 42 dX4_strike_109 (by decide) ?_
               refine g_mask [true, true, true, true, true, true, false] ?_
               refine g_lv ?_ ih
               first
               | (have en : bstM (p_str (h 11) e n t) k = none := by
                    rcases bstM_ok (p_str (h 11) e n t) k with ⟨q1, _⟩ | ⟨b, q1, _⟩
                    · exact q1
                    · rw [q1] at c57; have := bst_lt2 q1; exact absurd c57 (nI_pos (by omega))
                  first
                  | (rw [bM_n0 en (b0 c94), en]; rfl)
                  | (rw [bM_n1 en (nb0 c94)]; rfl))
               | (have cp : pcN k < pcN b := by
                    have := Int32.not_le.mp c70
                    exact (nI_ltI (by have := pc_8 k (by omega); omega) (by have := pc_8 b (by omega); omega)).mp this
                  first
                  | (rw [bM_k eb (Or.inr (b0 c94)), eb]; rfl)
                  | (rw [bM_y eb cp (nb0 c94)]; rfl))
               | (have cp : ¬ pcN k < pcN b := fun q => absurd (nI_lt q (by have := pc_8 b (by omega); omega)) (Int32.not_lt.mpr c70)
                  rw [bM_k eb (Or.inl cp), eb]
                  rfl))
          · first
            | exact absurd rfl c82
            | (refine g_aload_n dX4_strike_85 rfl ?_
               refine g_iload dX4_strike_86 rfl ?_
               refine g_iload_n dX4_strike_88 rfl ?_
               refine g_iload_n dX4_strike_89 rfl ?_
               refine g_iload_n dX4_strike_90 rfl ?_
               refine g_callV4i (c_X4_isElsewhere (by rw [setg_n _ _ (by decide)]; exact hI) he hn (by omega)) mi_X4_isElsewhere mv_X4_isElsewhere ml_X4_167 dX4_strike_91 rfl rfl (by decide) (Nat.le_of_ble_eq_true rfl) (Nat.le_of_ble_eq_true rfl) ?_
               refine g_h (h2 := setg h 13 (h 11)) (by rw [setg_s]; exact think1 h) ?_
               refine g_st (st2 := [.int (bI (p_str (h 11) e n t k))]) (by rw [setg_n _ _ (by decide)]) ?_
               refine g_if_eq 102 dX4_strike_94 (by decide) (fun c94 => ?_) (fun c94 => ?_)
               · first
                 | exact absurd c82 (by decide)
                 | (refine g_iload dX4_strike_102 rfl ?_
                    refine g_istore dX4_strike_104 (by decide) rfl ?_
                    refine g_iinc dX4_strike_106 rfl (ii_n _) (by decide) rfl ?_
                    refine g_goto 42 dX4_strike_109 (by decide) ?_
                    refine g_mask [true, true, true, true, true, true, false] ?_
                    refine g_lv ?_ ih
                    first
                    | (have en : bstM (p_str (h 11) e n t) k = none := by
                         rcases bstM_ok (p_str (h 11) e n t) k with ⟨q1, _⟩ | ⟨b, q1, _⟩
                         · exact q1
                         · rw [q1] at c57; have := bst_lt2 q1; exact absurd c57 (nI_pos (by omega))
                       first
                       | (rw [bM_n0 en (b0 c94), en]; rfl)
                       | (rw [bM_n1 en (nb0 c94)]; rfl))
                    | (have cp : pcN k < pcN b := by
                         have := Int32.not_le.mp c70
                         exact (nI_ltI (by have := pc_8 k (by omega); omega) (by have := pc_8 b (by omega); omega)).mp this
                       first
                       | (rw [bM_k eb (Or.inr (b0 c94)), eb]; rfl)
                       | (rw [bM_y eb cp (nb0 c94)]; rfl))
                    | (have cp : ¬ pcN k < pcN b := fun q => absurd (nI_lt q (by have := pc_8 b (by omega); omega)) (Int32.not_lt.mpr c70)
                       rw [bM_k eb (Or.inl cp), eb]
                       rfl))
               · refine g_iload dX4_strike_97 rfl ?_
                 refine g_goto 104 dX4_strike_99 (by decide) ?_
                 refine g_istore dX4_strike_104 (by decide) rfl ?_
                 refine g_iinc dX4_strike_106 rfl (ii_n _) (by decide) rfl ?_
                 refine g_goto 42 dX4_strike_109 (by decide) ?_
                 refine g_mask [true, true, true, true, true, true, false] ?_
                 refine g_lv ?_ ih
                 first
                 | (have en : bstM (p_str (h 11) e n t) k = none := by
                      rcases bstM_ok (p_str (h 11) e n t) k with ⟨q1, _⟩ | ⟨b, q1, _⟩
                      · exact q1
                      · rw [q1] at c57; have := bst_lt2 q1; exact absurd c57 (nI_pos (by omega))
                    first
                    | (rw [bM_n0 en (b0 c94), en]; rfl)
                    | (rw [bM_n1 en (nb0 c94)]; rfl))
                 | (have cp : pcN k < pcN b := by
                      have := Int32.not_le.mp c70
                      exact (nI_ltI (by have := pc_8 k (by omega); omega) (by have := pc_8 b (by omega); omega)).mp this
                    first
                    | (rw [bM_k eb (Or.inr (b0 c94)), eb]; rfl)
                    | (rw [bM_y eb cp (nb0 c94)]; rfl))
                 | (have cp : ¬ pcN k < pcN b := fun q => absurd (nI_lt q (by have := pc_8 b (by omega); omega)) (Int32.not_lt.mpr c70)
                    rw [bM_k eb (Or.inl cp), eb]
                    rfl))

set_option maxRecDepth 100000 in
set_option maxHeartbeats 4000000 in
theorem c_X4_strike {X : Sc} {h : Hp} (hI : In (h 11)) {g t n : Int32} : Ct X yX4_strike cX4_strike 7 (some .int) 7 [.ref 28, .int g, .int t, .int n] h (some (.int (oV (f_strike (h 11) g t n)))) (hM h (f_strike (h 11) g t n)) := by
  refine ⟨rfl, ?_⟩
  refine g_aload_n dX4_strike_0 rfl ?_
  refine g_iload_n dX4_strike_1 rfl ?_
  refine g_callV1i (c_X4_isGuest hI) mi_X4_isGuest mv_X4_isGuest ml_X4_86 dX4_strike_2 rfl rfl (by decide) (Nat.le_of_ble_eq_true rfl) (Nat.le_of_ble_eq_true rfl) ?_
  refine g_if_eq 25 dX4_strike_5 (by decide) (fun c5 => ?_) (fun c5 => ?_)
  · refine g_aload_n dX4_strike_25 rfl ?_
    refine g_ldc dX4_strike_26 lc_X4_34 ?_
    refine g_callV1i (c_X4_finds 0 (by decide) (by decide)) mi_X4_finds mv_X4_finds ml_X4_36 dX4_strike_28 rfl rfl (by decide) (Nat.le_of_ble_eq_true rfl) (Nat.le_of_ble_eq_true rfl) ?_
    exact g_ireturn dX4_strike_31 (by simp_all [f_strike, oV, fvl_0, bI_0]) (hM_0 _ (by simp_all [f_strike, bI_0]))
  · refine g_iload_n dX4_strike_8 rfl ?_
    refine g_callS1i (c_X4_isTown) mi_X4_isTown ms_X4_isTown ml_X4_66 dX4_strike_9 (by decide) (Nat.le_of_ble_eq_true rfl) (Nat.le_of_ble_eq_true rfl) ?_
    refine g_if_eq 25 dX4_strike_12 (by decide) (fun c12 => ?_) (fun c12 => ?_)
    · refine g_aload_n dX4_strike_25 rfl ?_
      refine g_ldc dX4_strike_26 lc_X4_34 ?_
      refine g_callV1i (c_X4_finds 0 (by decide) (by decide)) mi_X4_finds mv_X4_finds ml_X4_36 dX4_strike_28 rfl rfl (by decide) (Nat.le_of_ble_eq_true rfl) (Nat.le_of_ble_eq_true rfl) ?_
      exact g_ireturn dX4_strike_31 (by simp_all [f_strike, oV, fvl_0, bI_0]) (hM_0 _ (by simp_all [f_strike, bI_0]))
    · refine g_iload_n dX4_strike_15 rfl ?_
      refine g_iconst dX4_strike_16 ic_0 ?_
      refine g_bipush dX4_strike_17 bp_20 ?_
      refine g_callS3i (c_X4_in) mi_X4_in ms_X4_in ml_X4_40 dX4_strike_19 (by decide) (Nat.le_of_ble_eq_true rfl) (Nat.le_of_ble_eq_true rfl) ?_
      refine g_if_ne 32 dX4_strike_22 (by decide) (fun c22 => ?_) (fun c22 => ?_)
      · obtain ⟨e, le, he, te, rfl⟩ := isG_of2 hI (nb0 c5)
        obtain ⟨j, hj, tj, rfl⟩ := inB_of 20 (by decide) (nb0 c22)
        refine g_aload_n dX4_strike_32 rfl ?_
        refine g_callV0v (c_X4_thinks) mi_X4_thinks mv_X4_thinks ml_X4_144 dX4_strike_33 rfl rfl (by decide) (Nat.le_of_ble_eq_true rfl) (Nat.le_of_ble_eq_true rfl) ?_
        refine g_iconst dX4_strike_36 ic_m1 ?_
        refine g_istore dX4_strike_37 (by decide) rfl ?_
        refine g_iconst dX4_strike_39 ic_0 ?_
        refine g_istore dX4_strike_40 (by decide) rfl ?_
        have ef : f_strike (h 11) (nI e) t (nI j) = oF (h 11) (bstM (p_str (h 11) e j t) (2 ^ nD (h 11))) := by rw [f_strike, if_pos (by rw [nb0 c5, nb0 c12, nb0 c22]; rfl), te, tj, str_eq hI.nD.1]
        rw [← hM_x h _ ef, ef]
        exact l_X4_strike hI he hj 0 (Nat.zero_le _)
      · refine g_aload_n dX4_strike_25 rfl ?_
        refine g_ldc dX4_strike_26 lc_X4_34 ?_
        refine g_callV1i (c_X4_finds 0 (by decide) (by decide)) mi_X4_finds mv_X4_finds ml_X4_36 dX4_strike_28 rfl rfl (by decide) (Nat.le_of_ble_eq_true rfl) (Nat.le_of_ble_eq_true rfl) ?_
        exact g_ireturn dX4_strike_31 (by simp_all [f_strike, oV, fvl_0, bI_0]) (hM_0 _ (by simp_all [f_strike, bI_0]))

