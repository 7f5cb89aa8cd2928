/-! COURSES: the reference's way -/
def brg (e : Nat) (t : Int32) : Nat → Nat → Rw → Bool
  | 0, _, M => decide (gF M e 1 = t)
  | n + 1, k, M => decide (dF M (k % nD M) 5 = 0) && brg e t n (k / nD M) (eatR M e (k % nD M))
theorem nD_eat (M : Rw) (e d : Nat) : nD (eatR M e d) = nD M := by unfold nD; rw [eatR_lo _ _ _ (by decide)]
theorem nG_eat (M : Rw) (e d : Nat) : nG (eatR M e d) = nG M := by unfold nG; rw [eatR_lo _ _ _ (by decide)]
def simR (e : Nat) (M N : Rw) : Prop := nD M = nD N ∧ nG M = nG N ∧ (∀ d, d < 8 → ∀ w, w < 6 → dF M d w = dF N d w) ∧ gF M e 0 = gF N e 0 ∧ ∀ g, g < 6 → g ≠ e → gF M g 1 = gF N g 1
theorem oth_sim {e : Nat} {M N : Rw} (h : simR e M N) (t : Int32) : ∀ n, n ≤ 6 → othG M e t n = othG N e t n
  | 0, _ => rfl
  | n + 1, hn => by
    unfold othG
    rw [oth_sim h t n (by omega)]
    by_cases q : n = e
    · simp [q]
    · rw [h.2.2.2.2 n (by omega) q]
theorem lft_sim {e : Nat} {M N : Rw} (h : simR e M N) {d : Nat} (hd : d < 8) (hG : nG M ≤ 6) : lft M e d = lft N e d := by
  unfold lft
  rw [h.2.2.1 d hd 0 (by decide), h.2.2.1 d hd 4 (by decide), h.2.2.1 d hd 2 (by decide), h.2.2.2.1, oth_sim h _ _ hG, h.2.1]
theorem gF_eat0 {M : Rw} {e d : Nat} (hd : d < 8) : gF (eatR M e d) e 0 = hld (gF M e 0 + bnd (dF M d 0) (lft M e d)) 0 99 := by
  unfold eatR
  rw [gF_pD _ _ hd (by decide), gF_pG]
theorem gF_eato {M : Rw} {e g d : Nat} (hd : d < 8) (n : g ≠ e) : gF (eatR M e d) g 1 = gF M g 1 := by
  unfold eatR
  rw [gF_pD _ _ hd (by decide), gF_pGo _ _ (by decide) (by decide) n, gF_pGo _ _ (by decide) (by decide) n, gF_pGo _ _ (by decide) (by decide) n, gF_pGo _ _ (by decide) (by decide) n, gF_pGo _ _ (by decide) (by decide) n]
theorem dF_eat {M : Rw} {e d d2 w : Nat} (hd2 : d2 < 8) (hw : w < 6) : dF (eatR M e d) d2 w = if d2 = d ∧ w = 4 then hld (dF M d 4 + 1) 0 9999 else dF M d2 w := by
  unfold eatR
  by_cases q : d2 = d ∧ w = 4
  · rw [if_pos q, q.1, q.2, dF_pD]
  · rw [if_neg q]
    have e1 : ∀ (X : Rw) (v : Int32), dF (pD X d 4 v) d2 w = dF X d2 w := fun X v => by
      by_cases z : d2 = d
      · subst z; exact dF_pDn _ _ _ (fun y => q ⟨rfl, y⟩)
      · exact dF_pDo _ _ (by decide) hw z
    rw [e1, dF_pG _ _ _ _ hd2 hw, dF_pG _ _ _ _ hd2 hw, dF_pG _ _ _ _ hd2 hw, dF_pG _ _ _ _ hd2 hw, dF_pG _ _ _ _ hd2 hw]
theorem dF_lit {M : Rw} {e d d2 w : Nat} (hd2 : d2 < 8) (hw : w < 6) : dF (lit M e d) d2 w = if d2 = d ∧ w = 4 then hld (dF M d 4 + 1) 0 9999 else dF M d2 w := by
  unfold lit
  by_cases q : d2 = d ∧ w = 4
  · rw [if_pos q, q.1, q.2, dF_pD]
  · rw [if_neg q]
    by_cases z : d2 = d
    · subst z; rw [dF_pDn _ _ _ (fun y => q ⟨rfl, y⟩), dF_pG _ _ _ _ hd2 hw]
    · rw [dF_pDo _ _ (by decide) hw z, dF_pG _ _ _ _ hd2 hw]
theorem sim_step {e : Nat} {M N : Rw} (h : simR e M N) {d : Nat} (hd : d < 8) (hG : nG M ≤ 6) : simR e (lit M e d) (eatR N e d) := by
  have hl := lft_sim h hd hG
  refine ⟨?_, ?_, fun d2 h2 w hw => ?_, ?_, fun g hg n => ?_⟩
  · rw [nD_eat, ← h.1]; unfold lit pD pG; rw [nD_upd (by omega), nD_upd (by omega)]
  · rw [nG_eat, ← h.2.1]; unfold lit pD pG; rw [nG_upd (by omega), nG_upd (by omega)]
  · rw [dF_lit h2 hw, dF_eat h2 hw, h.2.2.1 d hd 4 (by decide), h.2.2.1 d2 h2 w hw]
  · rw [gF_eat0 hd]
    unfold lit
    rw [gF_pD _ _ hd (by decide), gF_pG, h.2.2.2.1, h.2.2.1 d hd 0 (by decide), hl]
  · rw [gF_eato hd n]
    unfold lit
    rw [gF_pD _ _ hd (by decide), gF_pGo _ _ (by decide) (by decide) n]
    exact h.2.2.2.2 g hg n
theorem sim_rf (e : Nat) (M : Rw) : simR e M M := ⟨rfl, rfl, fun _ _ _ _ => rfl, rfl, fun _ _ _ => rfl⟩
theorem lead_brg (e : Nat) (he : e < 6) (t : Int32) : ∀ (n : Nat) (M N : Rw), In M → In N → simR e M N → (lead e t (n + 1) M = true ↔ ∃ k, k < nD N ^ (n + 1) ∧ brg e t (n + 1) k N = true) := by
  intro n
  induction n with
  | zero =>
    intro M N hM hN h
    have hD := hM.nD.1
    have hG := hM.nG.1
    rw [lead_eq e t (by decide), anyD_iff]
    constructor
    · rintro ⟨d, h1, h2⟩
      rw [Bool.and_eq_true] at h2
      have d8 : d < 8 := by omega
      refine ⟨d, by rw [Nat.zero_add, Nat.pow_one, ← h.1]; exact h1, ?_⟩
      have o5 := hN.off d8
      have e5 := h.2.2.1 d d8 5 (by decide)
      unfold brg
      rw [Nat.mod_eq_of_lt (by rw [← h.1]; exact h1)]
      have h2b : twn M d (lft M e d) = t := of_decide_eq_true h2.2
      have h2a : ¬ dF M d 5 = 1 := by simpa using h2.1
      rw [e5] at h2a
      have z : dF N d 5 = 0 := o5.resolve_right h2a
      rw [decide_eq_true z, Bool.true_and]
      unfold brg
      rw [twn_eat d8, ← lft_sim h d8 hG]
      refine decide_eq_true ?_
      rw [← h2b]
      unfold twn
      cases lft M e d
      · exact (h.2.2.1 d d8 2 (by decide)).symm
      · exact (h.2.2.1 d d8 1 (by decide)).symm
    · rintro ⟨k, h1, h2⟩
      rw [Nat.zero_add, Nat.pow_one, ← h.1] at h1
      have d8 : k < 8 := by omega
      refine ⟨k, h1, ?_⟩
      unfold brg at h2
      rw [Nat.mod_eq_of_lt (by rw [← h.1]; exact h1), Bool.and_eq_true] at h2
      have z : dF N k 5 = 0 := of_decide_eq_true h2.1
      have h2b := h2.2
      unfold brg at h2b
      rw [twn_eat d8, ← lft_sim h d8 hG] at h2b
      rw [h.2.2.1 k d8 5 (by decide), z]
      have tw : twn M k (lft M e k) = t := by
        rw [← of_decide_eq_true h2b]
        unfold twn
        cases lft M e k
        · exact h.2.2.1 k d8 2 (by decide)
        · exact h.2.2.1 k d8 1 (by decide)
      unfold ldBy
      rw [if_pos rfl, decide_eq_true tw]
      rfl
  | succ n ih =>
    intro M N hM hN h
    have hD := hM.nD.1
    have hG := hM.nG.1
    rw [lead_eq e t (by omega), anyD_iff]
    constructor
    · rintro ⟨d, h1, h2⟩
      rw [Bool.and_eq_true] at h2
      have d8 : d < 8 := by omega
      have h2a : ¬ dF M d 5 = 1 := by simpa using h2.1
      have h2b := h2.2
      unfold ldBy at h2b
      rw [if_neg (by omega), show n + 1 + 1 - 1 = n + 1 by omega] at h2b
      obtain ⟨k, k1, k2⟩ := (ih (lit M e d) (eatR N e d) (hM.lit he d8) (hN.eat he d8) (sim_step h d8 hG)).mp h2b
      rw [nD_eat] at k1
      have dN : d < nD N := by rw [← h.1]; exact h1
      refine ⟨d + nD N * k, ?_, ?_⟩
      · rw [Nat.pow_succ, Nat.mul_comm (nD N ^ (n + 1))]
        calc d + nD N * k < nD N + nD N * k := Nat.add_lt_add_right dN _
          _ = nD N * (k + 1) := by rw [Nat.mul_succ, Nat.add_comm]
          _ ≤ nD N * nD N ^ (n + 1) := Nat.mul_le_mul_left _ k1
      · rw [brg, Nat.add_mul_mod_self_left, Nat.mod_eq_of_lt dN, Nat.add_mul_div_left _ _ (by omega), Nat.div_eq_of_lt dN, Nat.zero_add, k2]
        rw [h.2.2.1 d d8 5 (by decide)] at h2a
        rw [decide_eq_true ((hN.off d8).resolve_right h2a)]; rfl
    · rintro ⟨k, k1, k2⟩
      rw [brg, Bool.and_eq_true] at k2
      have D0 : 0 < nD N := by
        rcases Nat.eq_zero_or_pos (nD N) with q | q
        · rw [q, Nat.zero_pow (by omega)] at k1; exact absurd k1 (Nat.not_lt_zero _)
        · exact q
      have dN : k % nD N < nD N := Nat.mod_lt _ D0
      have d8 : k % nD N < 8 := by have := h.1; omega
      refine ⟨k % nD N, by rw [h.1]; exact dN, ?_⟩
      have z : dF N (k % nD N) 5 = 0 := of_decide_eq_true k2.1
      have q := (ih (lit M e (k % nD N)) (eatR N e (k % nD N)) (hM.lit he d8) (hN.eat he d8) (sim_step h d8 hG)).mpr ⟨k / nD N, by rw [nD_eat]; rw [Nat.pow_succ, Nat.mul_comm] at k1; exact Nat.div_lt_of_lt_mul k1, k2.2⟩
      rw [h.2.2.1 _ d8 5 (by decide), z]
      unfold ldBy
      rw [if_neg (by omega), show n + 1 + 1 - 1 = n + 1 by omega, q]
      rfl
def qB (e : Nat) (t : Int32) (m : Rw) (s : Nat) : Bool := anyD (fun k => brg e t s k m) (nD m ^ s)
theorem qB_0 (e : Nat) (t : Int32) (m : Rw) : qB e t m 0 = decide (gF m e 1 = t) := by
  unfold qB
  rw [Nat.pow_zero]
  simp [anyD, brg]
theorem qB_s {e : Nat} (he : e < 6) (t : Int32) {m : Rw} (h : In m) (n : Nat) : qB e t m (n + 1) = lead e t (n + 1) m := by
  have q := lead_brg e he t n m m h h (sim_rf e m)
  unfold qB
  rw [← anyD_iff] at q
  cases a : lead e t (n + 1) m with
  | true => exact q.mp a
  | false =>
    cases b : anyD (fun k => brg e t (n + 1) k m) (nD m ^ (n + 1)) with
    | false => rfl
    | true => rw [q.mpr b] at a; cases a
theorem cor_eq {e : Nat} (he : e < 6) (t : Int32) {m : Rw} (h : In m) : (if gF m e 1 = t then (.inr (0, m) : Oc) else oF m (fst1 (fun n => lead e t n m) 1 4)) = oF m (fst1 (qB e t m) 0 5) := by
  by_cases c : gF m e 1 = t
  · rw [if_pos c]
    have : qB e t m 0 = true := by rw [qB_0]; exact decide_eq_true c
    simp [fst1, this]
    rfl
  · rw [if_neg c]
    have : qB e t m 0 = false := by rw [qB_0]; exact decide_eq_false c
    simp only [fst1, this, qB_s he t h 0, qB_s he t h 1, qB_s he t h 2, qB_s he t h 3]
    rfl
set_option maxRecDepth 100000 in
set_option maxHeartbeats 4000000 in
theorem z_X4_doBring {X : Sc} {h : Hp} {e S D r : Nat} (he : e < 6) (hS : S ≤ 4) (hD : D ≤ 8) {t dg : Int32} {may : Bool} {M : Rw} (hM : In M) (nM : nD M = D) : Go X RX4 cX4_doBring 10 4 17 [.ref 28, .int (nI e), .int t, .int dg, .int (nI S), .int (nI D), .int (bI may), .int (nI r), .int (nI S), .null] [] (setg h 11 M) (some (.int (bI (may && brg e t 0 r M)))) (setg h 11 (h 13)) := by
  refine g_iload dX4_doBring_17 rfl ?_
  refine g_iload dX4_doBring_19 rfl ?_
  refine g_icmp_ge 74 dX4_doBring_21 (by decide) (fun c21 => ?_) (fun c21 => ?_)
  · refine g_iload dX4_doBring_74 rfl ?_
    refine g_if_eq 93 dX4_doBring_76 (by decide) (fun c76 => ?_) (fun c76 => ?_)
    · refine g_iconst dX4_doBring_93 ic_0 ?_
      refine g_istore dX4_doBring_94 (by decide) rfl ?_
      refine g_aload_n dX4_doBring_96 rfl ?_
      refine g_callV0v (c_X4_putsBack) mi_X4_putsBack mv_X4_putsBack ml_X4_147 dX4_doBring_97 rfl rfl (by decide) (Nat.le_of_ble_eq_true rfl) (Nat.le_of_ble_eq_true rfl) ?_
      refine g_iload dX4_doBring_100 rfl ?_
      exact g_ireturn dX4_doBring_102 (by simp_all [brg, bI_0, bI, setg_s]) (by rw [setg_2, setg_n _ _ (by decide)])
    · refine g_aload_n dX4_doBring_79 rfl ?_
      refine g_iload_n dX4_doBring_80 rfl ?_
      refine g_iconst dX4_doBring_81 ic_1 ?_
      refine g_callV2i (c_X4_his (w := 1) he (by decide)) mi_X4_his mv_X4_his ml_X4_44 dX4_doBring_82 rfl rfl (by decide) (Nat.le_of_ble_eq_true rfl) (Nat.le_of_ble_eq_true rfl) ?_
      refine g_iload_n dX4_doBring_85 rfl ?_
      refine g_icmp_ne 93 dX4_doBring_86 (by decide) (fun c86 => ?_) (fun c86 => ?_)
      · refine g_iconst dX4_doBring_93 ic_0 ?_
        refine g_istore dX4_doBring_94 (by decide) rfl ?_
        refine g_aload_n dX4_doBring_96 rfl ?_
        refine g_callV0v (c_X4_putsBack) mi_X4_putsBack mv_X4_putsBack ml_X4_147 dX4_doBring_97 rfl rfl (by decide) (Nat.le_of_ble_eq_true rfl) (Nat.le_of_ble_eq_true rfl) ?_
        refine g_iload dX4_doBring_100 rfl ?_
        exact g_ireturn dX4_doBring_102 (by simp_all [brg, bI_0, bI, setg_s]) (by rw [setg_2, setg_n _ _ (by decide)])
      · refine g_iconst dX4_doBring_89 ic_1 ?_
        refine g_goto 94 dX4_doBring_90 (by decide) ?_
        refine g_istore dX4_doBring_94 (by decide) rfl ?_
        refine g_aload_n dX4_doBring_96 rfl ?_
        refine g_callV0v (c_X4_putsBack) mi_X4_putsBack mv_X4_putsBack ml_X4_147 dX4_doBring_97 rfl rfl (by decide) (Nat.le_of_ble_eq_true rfl) (Nat.le_of_ble_eq_true rfl) ?_
        refine g_iload dX4_doBring_100 rfl ?_
        exact g_ireturn dX4_doBring_102 (by simp_all [brg, bI_0, bI, setg_s]) (by rw [setg_2, setg_n _ _ (by decide)])
  · exact absurd (nI_le (Nat.le_refl S) (by omega)) c21

set_option maxRecDepth 100000 in
set_option maxHeartbeats 4000000 in
theorem s_X4_doBring {X : Sc} {h : Hp} {e S D r : Nat} (he : e < 6) (hS : S ≤ 4) (hD : D ≤ 8) {t dg : Int32} {may : Bool} {M : Rw} (hM : In M) (nM : nD M = D) {k n : Nat} (hk : k < S) (hr : r < 2 ^ 31) (D0 : 0 < D) (ih : ∀ may2 : Bool, may2 = (may && decide (dF M (r % D) 5 = 0)) → Go X RX4 cX4_doBring 10 4 17 [.ref 28, .int (nI e), .int t, .int dg, .int (nI S), .int (nI D), .int (bI may2), .int (nI (r / D)), .int (nI (k + 1)), .null] [] (setg h 11 (eatR M e (r % D))) (some (.int (bI (may2 && brg e t n (r / D) (eatR M e (r % D)))))) (setg h 11 (h 13))) : Go X RX4 cX4_doBring 10 4 17 [.ref 28, .int (nI e), .int t, .int dg, .int (nI S), .int (nI D), .int (bI may), .int (nI r), .int (nI k), .null] [] (setg h 11 M) (some (.int (bI (may && brg e t (n + 1) r M)))) (setg h 11 (h 13)) := by
  have d8 : r % D < 8 := Nat.lt_of_lt_of_le (Nat.mod_lt _ D0) hD
  have dn : ¬ nI D = 0 := nI_ne0 D0 (by omega)
  refine g_iload dX4_doBring_17 rfl ?_
  refine g_iload dX4_doBring_19 rfl ?_
  refine g_icmp_ge 74 dX4_doBring_21 (by decide) (fun c21 => ?_) (fun c21 => ?_)
  · exact absurd c21 (nI_ge hk (by omega))
  · refine g_iload dX4_doBring_24 rfl ?_
    refine g_if_eq 46 dX4_doBring_26 (by decide) (fun c26 => ?_) (fun c26 => ?_)
    · refine g_iconst dX4_doBring_46 ic_0 ?_
      refine g_istore dX4_doBring_47 (by decide) rfl ?_
      refine g_aload_n dX4_doBring_49 rfl ?_
      refine g_iload_n dX4_doBring_50 rfl ?_
      refine g_iload dX4_doBring_51 rfl ?_
      refine g_iload dX4_doBring_53 rfl ?_
      refine g_irem dX4_doBring_55 dn ?_
      refine g_st (st2 := [.int (nI (r % D)), .int (nI e), .ref 28]) (by rw [pk_rem hr D0 (by omega)]) ?_
      refine g_callV2i (c_X4_eats (by rw [setg_s]; exact hM) he d8) mi_X4_eats mv_X4_eats ml_X4_108 dX4_doBring_56 rfl rfl (by decide) (Nat.le_of_ble_eq_true rfl) (Nat.le_of_ble_eq_true rfl) ?_
      refine g_istore dX4_doBring_59 (by decide) rfl ?_
      refine g_iload dX4_doBring_61 rfl ?_
      refine g_iload dX4_doBring_63 rfl ?_
      refine g_idiv dX4_doBring_65 dn ?_
      refine g_st (st2 := [.int (nI (r / D))]) (by rw [pk_div hr D0 (by omega)]) ?_
      refine g_istore dX4_doBring_66 (by decide) rfl ?_
      refine g_iinc dX4_doBring_68 rfl (ii_n _) (by decide) rfl ?_
      refine g_goto 17 dX4_doBring_71 (by decide) ?_
      refine g_mask [true, true, true, true, true, true, true, true, true, false] ?_
      refine g_h (h2 := setg h 11 (eatR M e (r % D))) (by rw [setg_s, setg_2]) ?_
      have eb : bI (may && brg e t (n + 1) r M) = bI ((may && decide (dF M (r % D) 5 = 0)) && brg e t n (r / D) (eatR M e (r % D))) := by rw [brg, nM, Bool.and_assoc]
      rw [eb]
      exact g_lv (by first | (rw [b0 c26]; rfl) | (rw [setg_s] at c39; rw [decide_eq_false c39, Bool.and_false]; rfl) | (rw [setg_s] at c39; rw [nb0 c26, decide_eq_true c39]; rfl)) (ih _ rfl)
    · refine g_aload_n dX4_doBring_29 rfl ?_
      refine g_iload dX4_doBring_30 rfl ?_
      refine g_iload dX4_doBring_32 rfl ?_
      refine g_irem dX4_doBring_34 dn ?_
      refine g_st (st2 := [.int (nI (r % D)), .ref 28]) (by rw [pk_rem hr D0 (by omega)]) ?_
      refine g_iconst dX4_doBring_35 ic_5 ?_
      refine g_callV2i (c_X4_it (w := 5) d8 (by decide)) mi_X4_it mv_X4_it ml_X4_48 dX4_doBring_36 rfl rfl (by decide) (Nat.le_of_ble_eq_true rfl) (Nat.le_of_ble_eq_true rfl) ?_
      refine g_if_ne 46 dX4_doBring_39 (by decide) (fun c39 => ?_) (fun c39 => ?_)
      · refine g_iconst dX4_doBring_46 ic_0 ?_
        refine g_istore dX4_doBring_47 (by decide) rfl ?_
        refine g_aload_n dX4_doBring_49 rfl ?_
        refine g_iload_n dX4_doBring_50 rfl ?_
        refine g_iload dX4_doBring_51 rfl ?_
        refine g_iload dX4_doBring_53 rfl ?_
        refine g_irem dX4_doBring_55 dn ?_
        refine g_st (st2 := [.int (nI (r % D)), .int (nI e), .ref 28]) (by rw [pk_rem hr D0 (by omega)]) ?_
        refine g_callV2i (c_X4_eats (by rw [setg_s]; exact hM) he d8) mi_X4_eats mv_X4_eats ml_X4_108 dX4_doBring_56 rfl rfl (by decide) (Nat.le_of_ble_eq_true rfl) (Nat.le_of_ble_eq_true rfl) ?_
        refine g_istore dX4_doBring_59 (by decide) rfl ?_
        refine g_iload dX4_doBring_61 rfl ?_
        refine g_iload dX4_doBring_63 rfl ?_
        refine g_idiv dX4_doBring_65 dn ?_
        refine g_st (st2 := [.int (nI (r / D))]) (by rw [pk_div hr D0 (by omega)]) ?_
        refine g_istore dX4_doBring_66 (by decide) rfl ?_
        refine g_iinc dX4_doBring_68 rfl (ii_n _) (by decide) rfl ?_
        refine g_goto 17 dX4_doBring_71 (by decide) ?_
        refine g_mask [true, true, true, true, true, true, true, true, true, false] ?_
        refine g_h (h2 := setg h 11 (eatR M e (r % D))) (by rw [setg_s, setg_2]) ?_
        have eb : bI (may && brg e t (n + 1) r M) = bI ((may && decide (dF M (r % D) 5 = 0)) && brg e t n (r / D) (eatR M e (r % D))) := by rw [brg, nM, Bool.and_assoc]
        rw [eb]
        exact g_lv (by first | (rw [b0 c26]; rfl) | (rw [setg_s] at c39; rw [decide_eq_false c39, Bool.and_false]; rfl) | (rw [setg_s] at c39; rw [nb0 c26, decide_eq_true c39]; rfl)) (ih _ rfl)
      · refine g_iconst dX4_doBring_42 ic_1 ?_
        refine g_goto 47 dX4_doBring_43 (by decide) ?_
        refine g_istore dX4_doBring_47 (by decide) rfl ?_
        refine g_aload_n dX4_doBring_49 rfl ?_
        refine g_iload_n dX4_doBring_50 rfl ?_
        refine g_iload dX4_doBring_51 rfl ?_
        refine g_iload dX4_doBring_53 rfl ?_
        refine g_irem dX4_doBring_55 dn ?_
        refine g_st (st2 := [.int (nI (r % D)), .int (nI e), .ref 28]) (by rw [pk_rem hr D0 (by omega)]) ?_
        refine g_callV2i (c_X4_eats (by rw [setg_s]; exact hM) he d8) mi_X4_eats mv_X4_eats ml_X4_108 dX4_doBring_56 rfl rfl (by decide) (Nat.le_of_ble_eq_true rfl) (Nat.le_of_ble_eq_true rfl) ?_
        refine g_istore dX4_doBring_59 (by decide) rfl ?_
        refine g_iload dX4_doBring_61 rfl ?_
        refine g_iload dX4_doBring_63 rfl ?_
        refine g_idiv dX4_doBring_65 dn ?_
        refine g_st (st2 := [.int (nI (r / D))]) (by rw [pk_div hr D0 (by omega)]) ?_
        refine g_istore dX4_doBring_66 (by decide) rfl ?_
        refine g_iinc dX4_doBring_68 rfl (ii_n _) (by decide) rfl ?_
        refine g_goto 17 dX4_doBring_71 (by decide) ?_
        refine g_mask [true, true, true, true, true, true, true, true, true, false] ?_
        refine g_h (h2 := setg h 11 (eatR M e (r % D))) (by rw [setg_s, setg_2]) ?_
        have eb : bI (may && brg e t (n + 1) r M) = bI ((may && decide (dF M (r % D) 5 = 0)) && brg e t n (r / D) (eatR M e (r % D))) := by rw [brg, nM, Bool.and_assoc]
        rw [eb]
        exact g_lv (by first | (rw [b0 c26]; rfl) | (rw [setg_s] at c39; rw [decide_eq_false c39, Bool.and_false]; rfl) | (rw [setg_s] at c39; rw [nb0 c26, decide_eq_true c39]; rfl)) (ih _ rfl)

theorem l_X4_doBring {X : Sc} {h : Hp} {e S D : Nat} (he : e < 6) (hS : S ≤ 4) (hD : D ≤ 8) {t dg : Int32} (D0 : S = 0 ∨ 0 < D) : ∀ (n k r : Nat) (may : Bool) (M : Rw), n + k = S → r < 2 ^ 31 → In M → nD M = D → Go X RX4 cX4_doBring 10 4 17 [.ref 28, .int (nI e), .int t, .int dg, .int (nI S), .int (nI D), .int (bI may), .int (nI r), .int (nI k), .null] [] (setg h 11 M) (some (.int (bI (may && brg e t n r M)))) (setg h 11 (h 13)) := by
  intro n
  induction n with
  | zero =>
    intro k r may M hk hr hM nM
    rw [Nat.zero_add] at hk
    subst hk
    exact z_X4_doBring he hS hD hM nM
  | succ n ih =>
    intro k r may M hk hr hM nM
    have D1 : 0 < D := by omega
    have d8 : r % D < 8 := Nat.lt_of_lt_of_le (Nat.mod_lt _ D1) hD
    exact s_X4_doBring he hS hD hM nM (by omega) hr D1 (fun m2 e2 => ih (k + 1) (r / D) m2 (eatR M e (r % D)) (by omega) (Nat.lt_of_le_of_lt (Nat.div_le_self _ _) hr) (hM.eat he d8) (by rw [nD_eat, nM]))
set_option maxRecDepth 100000 in
set_option maxHeartbeats 4000000 in
theorem c_X4_doBring {X : Sc} {h : Hp} (hI : In (h 11)) {e S k : Nat} (he : e < 6) (hS : S ≤ 4) (D0 : S = 0 ∨ 0 < nD (h 11)) (hk : k < 2 ^ 31) {t : Int32} : Ct X yX4_doBring cX4_doBring 10 (some .boolean) 4 [.ref 28, .int (nI e), .int t, .int (nI k), .int (nI S)] h (some (.int (bI (brg e t S k (h 11))))) (setg h 11 (h 13)) := by
  refine ⟨rok_b _, ?_⟩
  refine g_aload_n dX4_doBring_0 rfl ?_
  refine g_getR dX4_doBring_1 fl_X4_9 rfl rfl ?_
  refine g_iconst dX4_doBring_4 ic_2 ?_
  refine g_iald0 2 dX4_doBring_5 rfl rfl (by decide) ?_
  refine g_st (st2 := [.int (nI (nD (h 11)))]) (by rw [← hI.nD.2]) ?_
  refine g_istore dX4_doBring_6 (by decide) rfl ?_
  refine g_iconst dX4_doBring_8 ic_1 ?_
  refine g_istore dX4_doBring_9 (by decide) rfl ?_
  refine g_iload_n dX4_doBring_11 rfl ?_
  refine g_istore dX4_doBring_12 (by decide) rfl ?_
  refine g_iconst dX4_doBring_14 ic_0 ?_
  refine g_istore dX4_doBring_15 (by decide) rfl ?_
  exact g_h (setg_id h 11).symm (l_X4_doBring he hS hI.nD.1 D0 S 0 k true (h 11) (by omega) hk hI rfl)

theorem pow_b {D s : Nat} (hD : D ≤ 8) (hs : s ≤ 5) : D ^ s ≤ 32768 := Nat.le_trans (Nat.pow_le_pow_left hD s) (Nat.le_trans (Nat.pow_le_pow_right (by decide) hs) (by decide))
set_option maxRecDepth 100000 in
set_option maxHeartbeats 4000000 in
theorem i_X4_courses {X : Sc} {h : Hp} (hI : In (h 11)) {e S : Nat} (he : e < 6) (hS : S ≤ 4) {t : Int32} {r : Option Value} {h2 : Hp} (K : anyD (fun k => brg e t S k (h 11)) (nD (h 11) ^ S) = false → Go X RX4 cX4_courses 6 5 68 [.ref 28, .int (nI e), .int t, .int (nI (nD (h 11) ^ S)), .int (nI S), .int (nI (nD (h 11) ^ S))] [] (setg h 13 (h 11)) r h2) (Y : anyD (fun k => brg e t S k (h 11)) (nD (h 11) ^ S) = true → r = some (.int (nI S)) ∧ h2 = setg h 13 (h 11)) : ∀ k, k ≤ nD (h 11) ^ S → anyD (fun k => brg e t S k (h 11)) k = false → Go X RX4 cX4_courses 6 5 40 [.ref 28, .int (nI e), .int t, .int (nI (nD (h 11) ^ S)), .int (nI S), .int (nI k)] [] (setg h 13 (h 11)) r h2 := by
  have pb := pow_b hI.nD.1 (show S ≤ 5 by omega)
  refine loop_up (nD (h 11) ^ S) ?_ ?_
  · intro hy
    refine g_iload dX4_courses_40 rfl ?_
    refine g_iload_n dX4_courses_42 rfl ?_
    refine g_icmp_ge 68 dX4_courses_43 (by decide) (fun c43 => ?_) (fun c43 => ?_)
    · exact K hy
    · exact (lp_yes ((rfl : nI (nD (h 11) ^ S) = nI (nD (h 11) ^ S))) (by omega) c43).elim
  · intro k hk ih hy
    have D0 : S = 0 ∨ 0 < nD (h 11) := by
      rcases Nat.eq_zero_or_pos S with q | q
      · exact Or.inl q
      · refine Or.inr (Nat.pos_of_ne_zero (fun z => ?_))
        rw [z, Nat.zero_pow q] at hk
        exact absurd hk (Nat.not_lt_zero _)
    refine g_iload dX4_courses_40 rfl ?_
    refine g_iload_n dX4_courses_42 rfl ?_
    refine g_icmp_ge 68 dX4_courses_43 (by decide) (fun c43 => ?_) (fun c43 => ?_)
    · exact (lp_no ((rfl : nI (nD (h 11) ^ S) = nI (nD (h 11) ^ S))) (by omega) hk c43).elim
    · refine g_aload_n dX4_courses_46 rfl ?_
      refine g_iload_n dX4_courses_47 rfl ?_
      refine g_iload_n dX4_courses_48 rfl ?_
      refine g_iload dX4_courses_49 rfl ?_
      refine g_iload dX4_courses_51 rfl ?_
      refine g_callV4i (c_X4_doBring (by rw [setg_n _ _ (by decide)]; exact hI) he hS (by rw [setg_n _ _ (by decide)]; exact D0) (by omega)) mi_X4_doBring mv_X4_doBring ml_X4_160 dX4_courses_53 rfl rfl (by decide) (Nat.le_of_ble_eq_true rfl) (Nat.le_of_ble_eq_true rfl) ?_
      refine g_h (h2 := setg h 13 (h 11)) (by rw [setg_s]; exact think1 h) ?_
      refine g_st (st2 := [.int (bI (brg e t S k (h 11)))]) (by rw [setg_n _ _ (by decide)]) ?_
      refine g_if_eq 62 dX4_courses_56 (by decide) (fun c56 => ?_) (fun c56 => ?_)
      · refine g_iinc dX4_courses_62 rfl (ii_n _) (by decide) rfl ?_
        refine g_goto 40 dX4_courses_65 (by decide) ?_
        exact ih (by rw [anyD, hy, b0 c56]; rfl)
      · refine g_iload dX4_courses_59 rfl ?_
        exact g_ireturn dX4_courses_61 (Y (anyD_up (p := fun k => brg e t S k (h 11)) (k := k) (nb0 c56) _ hk)).1.symm (Y (anyD_up (p := fun k => brg e t S k (h 11)) (k := k) (nb0 c56) _ hk)).2.symm

set_option maxRecDepth 100000 in
set_option maxHeartbeats 4000000 in
theorem l_X4_courses {X : Sc} {h : Hp} (hI : In (h 11)) {e : Nat} (he : e < 6) {t : Int32} : ∀ k, k ≤ 5 → fst1 (qB e t (h 11)) 0 5 = fst1 (qB e t (h 11)) k (5 - k) → Go X RX4 cX4_courses 6 5 31 [.ref 28, .int (nI e), .int t, .int (nI (nD (h 11) ^ k)), .int (nI k), .null] [] (setg h 13 (h 11)) (some (.int (oV (oF (h 11) (fst1 (qB e t (h 11)) 0 5))))) (oXM h (fst1 (qB e t (h 11)) 0 5)) := by
  refine loop_up (5) ?_ ?_
  · intro hy
    refine g_iload dX4_courses_31 rfl ?_
    refine g_iconst dX4_courses_33 ic_4 ?_
    refine g_icmp_gt 83 dX4_courses_34 (by decide) (fun c34 => ?_) (fun c34 => ?_)
    · refine g_aload_n dX4_courses_83 rfl ?_
      refine g_ldc dX4_courses_84 lc_X4_35 ?_
      refine g_callV1i (c_X4_finds 3 (by decide) (by decide)) mi_X4_finds mv_X4_finds ml_X4_36 dX4_courses_86 rfl rfl (by decide) (Nat.le_of_ble_eq_true rfl) (Nat.le_of_ble_eq_true rfl) ?_
      exact g_ireturn dX4_courses_89 (by rw [hy, fst_0]; rfl) (by rw [hy, fst_0]; rfl)
    · exact absurd (nI_lt (a := 4) (b := 5) (by decide) (by decide)) c34
  · intro k hk ih hy
    refine g_iload dX4_courses_31 rfl ?_
    refine g_iconst dX4_courses_33 ic_4 ?_
    refine g_icmp_gt 83 dX4_courses_34 (by decide) (fun c34 => ?_) (fun c34 => ?_)
    · exact absurd c34 (nI_nlt (a := 4) (b := k) (by omega) (by decide))
    · refine g_iconst dX4_courses_37 ic_0 ?_
      refine g_istore dX4_courses_38 (by decide) rfl ?_
      refine i_X4_courses hI he (show k ≤ 4 by omega) (fun qf => ?_) (fun qt => ?_) 0 (Nat.zero_le _) rfl
      · refine g_iload_n dX4_courses_68 rfl ?_
        refine g_aload_n dX4_courses_69 rfl ?_
        refine g_getR dX4_courses_70 fl_X4_9 rfl rfl ?_
        refine g_iconst dX4_courses_73 ic_2 ?_
        refine g_iald0 2 dX4_courses_74 rfl rfl (by decide) ?_
        refine g_st (by rw [setg_n _ _ (by decide), hI.nD.2]) ?_
        refine g_imul dX4_courses_75 ?_
        refine g_st (st2 := [.int (nI (nD (h 11) ^ (k + 1)))]) (by rw [pk_mul, Nat.pow_succ]) ?_
        refine g_istore_n dX4_courses_76 (by decide) rfl ?_
        refine g_iinc dX4_courses_77 rfl (ii_n _) (by decide) rfl ?_
        refine g_goto 31 dX4_courses_80 (by decide) ?_
        refine g_mask [true, true, true, true, true, false] ?_
        exact ih (by rw [hy, fst_n (p := qB e t (h 11)) (k := k) (n := 5) qf (by omega)])
      · rw [hy, fst_y (p := qB e t (h 11)) (k := k) (n := 5) qt (by omega)]
        exact ⟨rfl, rfl⟩

set_option maxRecDepth 100000 in
set_option maxHeartbeats 4000000 in
theorem c_X4_courses {X : Sc} {h : Hp} (hI : In (h 11)) {g t : Int32} : Ct X yX4_courses cX4_courses 6 (some .int) 5 [.ref 28, .int g, .int t] h (some (.int (oV (f_courses (h 11) g t)))) (hM h (f_courses (h 11) g t)) := by
  refine ⟨rfl, ?_⟩
  refine g_aload_n dX4_courses_0 rfl ?_
  refine g_iload_n dX4_courses_1 rfl ?_
  refine g_callV1i (c_X4_isGuest hI) mi_X4_isGuest mv_X4_isGuest ml_X4_86 dX4_courses_2 rfl rfl (by decide) (Nat.le_of_ble_eq_true rfl) (Nat.le_of_ble_eq_true rfl) ?_
  refine g_if_eq 15 dX4_courses_5 (by decide) (fun c5 => ?_) (fun c5 => ?_)
  · refine g_aload_n dX4_courses_15 rfl ?_
    refine g_ldc dX4_courses_16 lc_X4_34 ?_
    refine g_callV1i (c_X4_finds 0 (by decide) (by decide)) mi_X4_finds mv_X4_finds ml_X4_36 dX4_courses_18 rfl rfl (by decide) (Nat.le_of_ble_eq_true rfl) (Nat.le_of_ble_eq_true rfl) ?_
    exact g_ireturn dX4_courses_21 (by simp_all [f_courses, oV, fvl_0, bI_0]) (hM_0 _ (by simp_all [f_courses, bI_0]))
  · refine g_iload_n dX4_courses_8 rfl ?_
    refine g_callS1i (c_X4_isTown) mi_X4_isTown ms_X4_isTown ml_X4_66 dX4_courses_9 (by decide) (Nat.le_of_ble_eq_true rfl) (Nat.le_of_ble_eq_true rfl) ?_
    refine g_if_ne 22 dX4_courses_12 (by decide) (fun c12 => ?_) (fun c12 => ?_)
    · obtain ⟨e, le, he, te, rfl⟩ := isG_of2 hI (nb0 c5)
      refine g_aload_n dX4_courses_22 rfl ?_
      refine g_callV0v (c_X4_thinks) mi_X4_thinks mv_X4_thinks ml_X4_144 dX4_courses_23 rfl rfl (by decide) (Nat.le_of_ble_eq_true rfl) (Nat.le_of_ble_eq_true rfl) ?_
      refine g_iconst dX4_courses_26 ic_1 ?_
      refine g_istore_n dX4_courses_27 (by decide) rfl ?_
      refine g_iconst dX4_courses_28 ic_0 ?_
      refine g_istore dX4_courses_29 (by decide) rfl ?_
      have ef : f_courses (h 11) (nI e) t = oF (h 11) (fst1 (qB e t (h 11)) 0 5) := by rw [f_courses, if_pos (by rw [nb0 c5, nb0 c12]; rfl), te, cor_eq he t hI]
      rw [← hM_x h _ ef, ef]
      exact l_X4_courses hI he 0 (by decide) rfl
    · refine g_aload_n dX4_courses_15 rfl ?_
      refine g_ldc dX4_courses_16 lc_X4_34 ?_
      refine g_callV1i (c_X4_finds 0 (by decide) (by decide)) mi_X4_finds mv_X4_finds ml_X4_36 dX4_courses_18 rfl rfl (by decide) (Nat.le_of_ble_eq_true rfl) (Nat.le_of_ble_eq_true rfl) ?_
      exact g_ireturn dX4_courses_21 (by simp_all [f_courses, oV, fvl_0, bI_0]) (hM_0 _ (by simp_all [f_courses, bI_0]))

