/-! COURSES -/
def anyD (p : Nat → Bool) : Nat → Bool
  | 0 => false
  | n + 1 => anyD p n || p n
theorem anyD_up {p : Nat → Bool} {k : Nat} (hk : p k = true) : ∀ n, k < n → anyD p n = true
  | 0, h => absurd h (Nat.not_lt_zero k)
  | n + 1, h => by
    unfold anyD
    rcases Nat.lt_or_ge k n with q | q
    · rw [anyD_up hk n q]; rfl
    · rw [show n = k by omega, hk, Bool.or_true]
theorem anyD_iff {p : Nat → Bool} : ∀ {n : Nat}, anyD p n = true ↔ ∃ k, k < n ∧ p k = true
  | 0 => by simp [anyD]
  | n + 1 => by
    unfold anyD
    rw [Bool.or_eq_true, anyD_iff (n := n)]
    constructor
    · rintro (⟨k, h1, h2⟩ | h)
      · exact ⟨k, by omega, h2⟩
      · exact ⟨n, by omega, h⟩
    · rintro ⟨k, h1, h2⟩
      rcases Nat.lt_or_ge k n with q | q
      · exact Or.inl ⟨k, q, h2⟩
      · exact Or.inr (by rw [show n = k by omega]; exact h2)
/-- what of a meal decides the ways: bent, helpings -/
def lit (M : Rw) (e d : Nat) : Rw := pD (pG M e 0 (hld (gF M e 0 + bnd (dF M d 0) (lft M e d)) 0 99)) d 4 (hld (dF M d 4 + 1) 0 9999)
def lead (e : Nat) (t : Int32) : Nat → Rw → Bool
  | 0, _ => false
  | n + 1, M => anyD (fun d => !decide (dF M d 5 = 1) && (if n = 0 then decide (twn M d (lft M e d) = t) else lead e t n (lit M e d))) (nD M)
theorem In.lit {M : Rw} (h : In M) {e d : Nat} (he : e < 6) (hd : d < 8) : In (lit M e d) := (h.pG' (w := 0) he (by decide) (hld_in _ (t := 99) (by decide))).pD' (w := 4) hd (by decide) (hld_in _ (t := 9999) (by decide))
theorem lit_back (M : Rw) (e d : Nat) (he : e < 6) (hd : d < 8) : pD (pG (lit M e d) e 0 (gF M e 0)) d 4 (dF M d 4) = M := by
  funext k
  unfold lit pD pG gF dF upd
  by_cases h1 : k = 10 + (d * 6 + 4)
  · rw [if_pos h1, h1]
  · rw [if_neg h1]
    by_cases h2 : k = 58 + (e * 5 + 0)
    · rw [if_pos h2, h2]
    · rw [if_neg h2, if_neg h1, if_neg h2]
def ldBy (e : Nat) (t : Int32) (n : Nat) (M : Rw) (d : Nat) : Bool := if n = 1 then decide (twn M d (lft M e d) = t) else lead e t (n - 1) (lit M e d)
theorem lead_eq (e : Nat) (t : Int32) {n : Nat} (hn : 1 ≤ n) (M : Rw) : lead e t n M = anyD (fun d => !decide (dF M d 5 = 1) && ldBy e t n M d) (nD M) := by
  obtain ⟨x, rfl⟩ : ∃ x, n = x + 1 := ⟨n - 1, by omega⟩
  unfold lead ldBy
  congr 1
  funext d
  congr 1
  by_cases c : x = 0
  · rw [if_pos c, if_pos (by omega)]
  · rw [if_neg c, if_neg (by omega), show x + 1 - 1 = x by omega]
set_option maxRecDepth 100000 in
set_option maxHeartbeats 4000000 in
theorem b_X3_leadsToBy {X : Sc} {n : Nat} (h1 : 1 ≤ n) (h4 : n ≤ 4) {h : Hp} (h3 : In (h 3)) {e : Nat} (he : e < 6) {t : Int32} {d : Nat} (hd : d < 8) (hL : 2 ≤ n → ∀ (h : Hp), In (h 3) → ∀ (e : Nat), e < 6 → ∀ (t : Int32), Ct X yX3_leadsTo cX3_leadsTo 5 (some .boolean) (2 * (n - 1) + 3) [.ref 0, .int (nI e), .int t, .int (nI (n - 1))] h (some (.int (bI (lead e t (n - 1) (h 3))))) h) : Ct X yX3_leadsToBy cX3_leadsToBy 9 (some .boolean) (2 * n + 2) [.ref 0, .int (nI d), .int (nI e), .int t, .int (nI n)] h (some (.int (bI (ldBy e t n (h 3) d)))) h := by
  refine ⟨rok_b _, ?_⟩
  refine g_aload_n dX3_leadsToBy_0 rfl ?_
  refine g_getR dX3_leadsToBy_1 fl_X3_19 rfl rfl ?_
  refine g_iload_n dX3_leadsToBy_4 rfl ?_
  refine g_iload_n dX3_leadsToBy_5 rfl ?_
  refine g_callV2i (c_X0_takesLeft inn3 h3 he hd) mi_X0_takesLeft mv_X0_takesLeft ml_X3_116 dX3_leadsToBy_6 rfl rfl (by omega) (Nat.le_of_ble_eq_true rfl) (Nat.le_of_ble_eq_true rfl) ?_
  refine g_istore dX3_leadsToBy_9 (by decide) rfl ?_
  refine g_iload dX3_leadsToBy_11 rfl ?_
  refine g_iconst dX3_leadsToBy_13 ic_1 ?_
  refine g_icmp_ne 37 dX3_leadsToBy_14 (by decide) (fun c14 => ?_) (fun c14 => ?_)
  · have n1 : ¬ n = 1 := fun q => c14 (by rw [q]; rfl)
    refine g_aload_n dX3_leadsToBy_37 rfl ?_
    refine g_getR dX3_leadsToBy_38 fl_X3_19 rfl rfl ?_
    refine g_iload_n dX3_leadsToBy_41 rfl ?_
    refine g_iconst dX3_leadsToBy_42 ic_0 ?_
    refine g_callV2i (c_X0_guestFact (w := 0) inn3 he (by decide)) mi_X0_guestFact mv_X0_guestFact ml_X3_107 dX3_leadsToBy_43 rfl rfl (by omega) (Nat.le_of_ble_eq_true rfl) (Nat.le_of_ble_eq_true rfl) ?_
    refine g_istore dX3_leadsToBy_46 (by decide) rfl ?_
    refine g_aload_n dX3_leadsToBy_48 rfl ?_
    refine g_getR dX3_leadsToBy_49 fl_X3_19 rfl rfl ?_
    refine g_iload_n dX3_leadsToBy_52 rfl ?_
    refine g_iconst dX3_leadsToBy_53 ic_4 ?_
    refine g_callV2i (c_X0_dishFact (w := 4) inn3 hd (by decide)) mi_X0_dishFact mv_X0_dishFact ml_X3_91 dX3_leadsToBy_54 rfl rfl (by omega) (Nat.le_of_ble_eq_true rfl) (Nat.le_of_ble_eq_true rfl) ?_
    refine g_istore dX3_leadsToBy_57 (by decide) rfl ?_
    refine g_aload_n dX3_leadsToBy_59 rfl ?_
    refine g_getR dX3_leadsToBy_60 fl_X3_19 rfl rfl ?_
    refine g_iload_n dX3_leadsToBy_63 rfl ?_
    refine g_aload_n dX3_leadsToBy_64 rfl ?_
    refine g_getR dX3_leadsToBy_65 fl_X3_19 rfl rfl ?_
    refine g_iload_n dX3_leadsToBy_68 rfl ?_
    refine g_iconst dX3_leadsToBy_69 ic_0 ?_
    refine g_callV2i (c_X0_dishFact (w := 0) inn3 hd (by decide)) mi_X0_dishFact mv_X0_dishFact ml_X3_91 dX3_leadsToBy_70 rfl rfl (by omega) (Nat.le_of_ble_eq_true rfl) (Nat.le_of_ble_eq_true rfl) ?_
    refine g_iload dX3_leadsToBy_73 rfl ?_
    refine g_callS2i (c_X0_bendOf) mi_X0_bendOf ms_X0_bendOf ml_X3_124 dX3_leadsToBy_75 (by omega) (Nat.le_of_ble_eq_true rfl) (Nat.le_of_ble_eq_true rfl) ?_
    refine g_callV2v (c_X0_bendGuest inn3 he) mi_X0_bendGuest mv_X0_bendGuest ml_X3_276 dX3_leadsToBy_78 rfl rfl (by omega) (Nat.le_of_ble_eq_true rfl) (Nat.le_of_ble_eq_true rfl) ?_
    refine g_aload_n dX3_leadsToBy_81 rfl ?_
    refine g_getR dX3_leadsToBy_82 fl_X3_19 rfl rfl ?_
    refine g_iload_n dX3_leadsToBy_85 rfl ?_
    refine g_callV1v (c_X0_serveOnce inn3 hd (by rw [setg_s, dF_pG _ _ _ _ hd (by decide)]; exact h3.posD hd)) mi_X0_serveOnce mv_X0_serveOnce ml_X3_279 dX3_leadsToBy_86 rfl rfl (by omega) (Nat.le_of_ble_eq_true rfl) (Nat.le_of_ble_eq_true rfl) ?_
    refine g_h (h2 := setg h 3 (lit (h 3) e d)) (by rw [setg_2, setg_s, dF_pG _ _ _ _ hd (by decide)]; rfl) ?_
    refine g_aload_n dX3_leadsToBy_89 rfl ?_
    refine g_iload_n dX3_leadsToBy_90 rfl ?_
    refine g_iload_n dX3_leadsToBy_91 rfl ?_
    refine g_iload dX3_leadsToBy_92 rfl ?_
    refine g_iconst dX3_leadsToBy_94 ic_1 ?_
    refine g_isub dX3_leadsToBy_95 ?_
    refine g_st (st2 := [.int (nI (n - 1)), .int t, .int (nI e), .ref 0]) (by obtain ⟨x, rfl⟩ : ∃ x, n = x + 1 := ⟨n - 1, by omega⟩; rw [nI_pred]; rfl) ?_
    refine g_callV3i (hL (by omega) (setg h 3 (lit (h 3) e d)) (by rw [setg_s]; exact h3.lit he hd) e he t) mi_X3_leadsTo mv_X3_leadsTo ml_X3_181 dX3_leadsToBy_96 rfl rfl (by omega) (Nat.le_of_ble_eq_true rfl) (Nat.le_of_ble_eq_true rfl) ?_
    refine g_st (st2 := [.int (bI (lead e t (n - 1) (lit (h 3) e d)))]) (by rw [setg_s]) ?_
    refine g_istore dX3_leadsToBy_99 (by decide) rfl ?_
    refine g_aload_n dX3_leadsToBy_101 rfl ?_
    refine g_getR dX3_leadsToBy_102 fl_X3_19 rfl rfl ?_
    refine g_iload_n dX3_leadsToBy_105 rfl ?_
    refine g_iconst dX3_leadsToBy_106 ic_0 ?_
    refine g_iload dX3_leadsToBy_107 rfl ?_
    refine g_callV3v (c_X0_putGuestFact (w := 0) inn3 he (by decide)) mi_X0_putGuestFact mv_X0_putGuestFact ml_X3_113 dX3_leadsToBy_109 rfl rfl (by omega) (Nat.le_of_ble_eq_true rfl) (Nat.le_of_ble_eq_true rfl) ?_
    refine g_aload_n dX3_leadsToBy_112 rfl ?_
    refine g_getR dX3_leadsToBy_113 fl_X3_19 rfl rfl ?_
    refine g_iload_n dX3_leadsToBy_116 rfl ?_
    refine g_iconst dX3_leadsToBy_117 ic_4 ?_
    refine g_iload dX3_leadsToBy_118 rfl ?_
    refine g_callV3v (c_X0_putDishFact (w := 4) inn3 hd (by decide)) mi_X0_putDishFact mv_X0_putDishFact ml_X3_98 dX3_leadsToBy_120 rfl rfl (by omega) (Nat.le_of_ble_eq_true rfl) (Nat.le_of_ble_eq_true rfl) ?_
    refine g_iload dX3_leadsToBy_123 rfl ?_
    exact g_ireturn dX3_leadsToBy_125 (by rw [ldBy, if_neg n1]) (by rw [setg_2, setg_2, setg_s, setg_s, lit_back _ _ _ he hd, setg_id])
  · have n1 : n = 1 := (nI_eq (b := 1) (by omega) (by decide)).mp c14
    refine g_aload_n dX3_leadsToBy_17 rfl ?_
    refine g_getR dX3_leadsToBy_18 fl_X3_19 rfl rfl ?_
    refine g_iload_n dX3_leadsToBy_21 rfl ?_
    refine g_iload dX3_leadsToBy_22 rfl ?_
    refine g_callV2i (c_X0_townOf inn3 hd) mi_X0_townOf mv_X0_townOf ml_X3_128 dX3_leadsToBy_24 rfl rfl (by omega) (Nat.le_of_ble_eq_true rfl) (Nat.le_of_ble_eq_true rfl) ?_
    refine g_iload_n dX3_leadsToBy_27 rfl ?_
    refine g_icmp_ne 35 dX3_leadsToBy_28 (by decide) (fun c28 => ?_) (fun c28 => ?_)
    · refine g_iconst dX3_leadsToBy_35 ic_0 ?_
      exact g_ireturn dX3_leadsToBy_36 (by rw [ldBy, if_pos n1]; simp_all [bI]) rfl
    · refine g_iconst dX3_leadsToBy_31 ic_1 ?_
      refine g_goto 36 dX3_leadsToBy_32 (by decide) ?_
      exact g_ireturn dX3_leadsToBy_36 (by rw [ldBy, if_pos n1]; simp_all [bI]) rfl

set_option maxRecDepth 100000 in
set_option maxHeartbeats 4000000 in
theorem l_X3_leadsTo {X : Sc} {n : Nat} (h1 : 1 ≤ n) (h4 : n ≤ 4) {h : Hp} (h3 : In (h 3)) {e : Nat} (he : e < 6) {t : Int32} (hL : 2 ≤ n → ∀ (h : Hp), In (h 3) → ∀ (e : Nat), e < 6 → ∀ (t : Int32), Ct X yX3_leadsTo cX3_leadsTo 5 (some .boolean) (2 * (n - 1) + 3) [.ref 0, .int (nI e), .int t, .int (nI (n - 1))] h (some (.int (bI (lead e t (n - 1) (h 3))))) h) : ∀ k, k ≤ nD (h 3) → anyD (fun d => !decide (dF (h 3) d 5 = 1) && ldBy e t n (h 3) d) k = false → Go X RX3 cX3_leadsTo 5 (2 * n + 3) 15 [.ref 0, .int (nI e), .int t, .int (nI n), .int (nI k)] [] h (some (.int (bI (lead e t n (h 3))))) h := by
  have hN := h3.nD.1
  refine loop_up (nD (h 3)) ?_ ?_
  · intro hy
    refine g_iload dX3_leadsTo_15 rfl ?_
    refine g_aload_n dX3_leadsTo_17 rfl ?_
    refine g_getR dX3_leadsTo_18 fl_X3_19 rfl rfl ?_
    refine g_getI dX3_leadsTo_21 fl_X3_70 rfl rfl ?_
    refine g_icmp_ge 59 dX3_leadsTo_24 (by decide) (fun c24 => ?_) (fun c24 => ?_)
    · refine g_iconst dX3_leadsTo_59 ic_0 ?_
      exact g_ireturn dX3_leadsTo_60 (by rw [lead_eq e t h1, hy]; rfl) rfl
    · exact (lp_yes (h3.nD.2) (by omega) c24).elim
  · intro k hk ih hy
    refine g_iload dX3_leadsTo_15 rfl ?_
    refine g_aload_n dX3_leadsTo_17 rfl ?_
    refine g_getR dX3_leadsTo_18 fl_X3_19 rfl rfl ?_
    refine g_getI dX3_leadsTo_21 fl_X3_70 rfl rfl ?_
    refine g_icmp_ge 59 dX3_leadsTo_24 (by decide) (fun c24 => ?_) (fun c24 => ?_)
    · exact (lp_no (h3.nD.2) (by omega) hk c24).elim
    · refine g_aload_n dX3_leadsTo_27 rfl ?_
      refine g_getR dX3_leadsTo_28 fl_X3_19 rfl rfl ?_
      refine g_iload dX3_leadsTo_31 rfl ?_
      refine g_callV1i (c_X0_isOff inn3 (by omega)) mi_X0_isOff mv_X0_isOff ml_X3_131 dX3_leadsTo_33 rfl rfl (by omega) (Nat.le_of_ble_eq_true rfl) (Nat.le_of_ble_eq_true rfl) ?_
      refine g_if_ne 53 dX3_leadsTo_36 (by decide) (fun c36 => ?_) (fun c36 => ?_)
      · refine g_iinc dX3_leadsTo_53 rfl (ii_n _) (by decide) rfl ?_
        refine g_goto 15 dX3_leadsTo_56 (by decide) ?_
        exact ih (by rw [anyD, hy, Bool.false_or]; first | (simp [nb0 c36]; done) | (simp [b0 c48]; done))
      · refine g_aload_n dX3_leadsTo_39 rfl ?_
        refine g_iload dX3_leadsTo_40 rfl ?_
        refine g_iload_n dX3_leadsTo_42 rfl ?_
        refine g_iload_n dX3_leadsTo_43 rfl ?_
        refine g_iload_n dX3_leadsTo_44 rfl ?_
        refine g_callV4i (b_X3_leadsToBy h1 h4 h3 he (by omega) hL) mi_X3_leadsToBy mv_X3_leadsToBy ml_X3_273 dX3_leadsTo_45 rfl rfl (by omega) (Nat.le_of_ble_eq_true rfl) (Nat.le_of_ble_eq_true rfl) ?_
        refine g_if_eq 53 dX3_leadsTo_48 (by decide) (fun c48 => ?_) (fun c48 => ?_)
        · refine g_iinc dX3_leadsTo_53 rfl (ii_n _) (by decide) rfl ?_
          refine g_goto 15 dX3_leadsTo_56 (by decide) ?_
          exact ih (by rw [anyD, hy, Bool.false_or]; first | (simp [nb0 c36]; done) | (simp [b0 c48]; done))
        · refine g_iconst dX3_leadsTo_51 ic_1 ?_
          exact g_ireturn dX3_leadsTo_52 (by rw [lead_eq e t h1, anyD_up (k := k) (by rw [b0 c36, nb0 c48]; rfl) _ hk]; rfl) rfl

set_option maxRecDepth 100000 in
set_option maxHeartbeats 4000000 in
theorem s_X3_leadsTo {X : Sc} {n : Nat} (h1 : 1 ≤ n) (h4 : n ≤ 4) {h : Hp} (h3 : In (h 3)) {e : Nat} (he : e < 6) {t : Int32} (hL : 2 ≤ n → ∀ (h : Hp), In (h 3) → ∀ (e : Nat), e < 6 → ∀ (t : Int32), Ct X yX3_leadsTo cX3_leadsTo 5 (some .boolean) (2 * (n - 1) + 3) [.ref 0, .int (nI e), .int t, .int (nI (n - 1))] h (some (.int (bI (lead e t (n - 1) (h 3))))) h) : Ct X yX3_leadsTo cX3_leadsTo 5 (some .boolean) (2 * n + 3) [.ref 0, .int (nI e), .int t, .int (nI n)] h (some (.int (bI (lead e t n (h 3))))) h := by
  refine ⟨rok_b _, ?_⟩
  refine g_iload_n dX3_leadsTo_0 rfl ?_
  refine g_iconst dX3_leadsTo_1 ic_1 ?_
  refine g_icmp_lt 10 dX3_leadsTo_2 (by decide) (fun c2 => ?_) (fun c2 => ?_)
  · exact absurd c2 (nI_nlt (a := n) (b := 1) h1 (by omega))
  · refine g_iload_n dX3_leadsTo_5 rfl ?_
    refine g_iconst dX3_leadsTo_6 ic_4 ?_
    refine g_icmp_le 12 dX3_leadsTo_7 (by decide) (fun c7 => ?_) (fun c7 => ?_)
    · refine g_iconst dX3_leadsTo_12 ic_0 ?_
      refine g_istore dX3_leadsTo_13 (by decide) rfl ?_
      exact l_X3_leadsTo h1 h4 h3 he hL 0 (Nat.zero_le _) rfl
    · exact absurd (nI_le (a := n) (b := 4) h4 (by decide)) c7

theorem c_X3_leadsTo {X : Sc} : ∀ n, 1 ≤ n → n ≤ 4 → ∀ (h : Hp), In (h 3) → ∀ (e : Nat), e < 6 → ∀ (t : Int32), Ct X yX3_leadsTo cX3_leadsTo 5 (some .boolean) (2 * n + 3) [.ref 0, .int (nI e), .int t, .int (nI n)] h (some (.int (bI (lead e t n (h 3))))) h
  | 0, h1, _, _, _, _, _, _ => absurd h1 (by decide)
  | n + 1, h1, h4, h, h3, e, he, t => s_X3_leadsTo h1 h4 h3 he (fun q => c_X3_leadsTo n (by omega) (by omega))
def f_courses (m : Rw) (g t : Int32) : Oc := if isG m g && inB t 0 11 then (if gF m (tn g) 1 = t then .inr (0, m) else oF m (fst1 (fun n => lead (tn g) t n m) 1 4)) else .inl 0
set_option maxRecDepth 100000 in
set_option maxHeartbeats 4000000 in
theorem l_X3_courses {X : Sc} {h : Hp} (hI : In (h 1)) {e : Nat} (he : e < 6) {t : Int32} : ∀ k, k ≤ 5 → 1 ≤ k → fst1 (fun n => lead e t n (h 1)) 1 4 = fst1 (fun n => lead e t n (h 1)) k (5 - k) → Go X RX3 cX3_courses 4 12 53 [.ref 0, .int (nI e), .int t, .int (nI k)] [] (setg h 3 (h 1)) (some (.int (oV (oF (h 1) (fst1 (fun n => lead e t n (h 1)) 1 4))))) (oX h (h 1) (fst1 (fun n => lead e t n (h 1)) 1 4)) := by
  refine loop_up (5) ?_ ?_
  · intro hy hy2
    refine g_iload_n dX3_courses_53 rfl ?_
    refine g_iconst dX3_courses_54 ic_4 ?_
    refine g_icmp_gt 76 dX3_courses_55 (by decide) (fun c55 => ?_) (fun c55 => ?_)
    · refine g_aload_n dX3_courses_76 rfl ?_
      refine g_ldc dX3_courses_77 lc_X3_176 ?_
      refine g_callV1i (c_X3_found 3 (by decide) (by decide)) mi_X3_found mv_X3_found ml_X3_53 dX3_courses_79 rfl rfl (by decide) (Nat.le_of_ble_eq_true rfl) (Nat.le_of_ble_eq_true rfl) ?_
      exact g_ireturn dX3_courses_82 (by rw [hy2, fst_0]; rfl) (by rw [hy2, fst_0]; rfl)
    · exact absurd (nI_lt (a := 4) (b := 5) (by decide) (by decide)) c55
  · intro k hk ih hy hy2
    refine g_iload_n dX3_courses_53 rfl ?_
    refine g_iconst dX3_courses_54 ic_4 ?_
    refine g_icmp_gt 76 dX3_courses_55 (by decide) (fun c55 => ?_) (fun c55 => ?_)
    · exact absurd c55 (nI_nlt (a := 4) (b := k) (by omega) (by decide))
    · refine g_aload_n dX3_courses_58 rfl ?_
      refine g_iload_n dX3_courses_59 rfl ?_
      refine g_iload_n dX3_courses_60 rfl ?_
      refine g_iload_n dX3_courses_61 rfl ?_
      refine g_callV3i ((c_X3_leadsTo k (by omega) (by omega) (setg h 3 (h 1)) (by rw [setg_s]; exact hI) e he t).up (d2 := 11) (by omega)) mi_X3_leadsTo mv_X3_leadsTo ml_X3_181 dX3_courses_62 rfl rfl (by decide) (Nat.le_of_ble_eq_true rfl) (Nat.le_of_ble_eq_true rfl) ?_
      refine g_st (st2 := [.int (bI (lead e t k (h 1)))]) (by rw [setg_s]) ?_
      refine g_if_eq 70 dX3_courses_65 (by decide) (fun c65 => ?_) (fun c65 => ?_)
      · refine g_iinc dX3_courses_70 rfl (ii_n _) (by decide) rfl ?_
        refine g_goto 53 dX3_courses_73 (by decide) ?_
        exact ih (by omega) (by rw [hy2, fst_n (n := 5) (b0 c65) (by omega)])
      · refine g_iload_n dX3_courses_68 rfl ?_
        exact g_ireturn dX3_courses_69 (by rw [hy2, fst_y (n := 5) (nb0 c65) (by omega)]; rfl) (by rw [hy2, fst_y (n := 5) (nb0 c65) (by omega)]; rfl)

theorem hC0 (h : Hp) (v : Int32) : h = hQ h (.inr (v, h 1)) (h 3) := by
  rw [← hQ_v h (h 3) rfl, setg_id]
set_option maxRecDepth 100000 in
set_option maxHeartbeats 4000000 in
theorem c_X3_courses {X : Sc} {h : Hp} (hI : In (h 1)) {g t : Int32} : Ct X yX3_courses cX3_courses 4 (some .int) 12 [.ref 0, .int g, .int t] h (some (.int (oV (f_courses (h 1) g t)))) (hQ h (f_courses (h 1) g t) (if gF (h 1) (tn g) 1 = t then h 3 else h 1)) := by
  refine ⟨rfl, ?_⟩
  refine g_aload_n dX3_courses_0 rfl ?_
  refine g_getR dX3_courses_1 fl_X3_12 rfl rfl ?_
  refine g_iload_n dX3_courses_4 rfl ?_
  refine g_callV1i (c_X0_isGuest inn1) mi_X0_isGuest mv_X0_isGuest ml_X3_101 dX3_courses_5 rfl rfl (by decide) (Nat.le_of_ble_eq_true rfl) (Nat.le_of_ble_eq_true rfl) ?_
  refine g_if_eq 18 dX3_courses_8 (by decide) (fun c8 => ?_) (fun c8 => ?_)
  · refine g_aload_n dX3_courses_18 rfl ?_
    refine g_ldc dX3_courses_19 lc_X3_52 ?_
    refine g_callV1i (c_X3_found 0 (by decide) (by decide)) mi_X3_found mv_X3_found ml_X3_53 dX3_courses_21 rfl rfl (by decide) (Nat.le_of_ble_eq_true rfl) (Nat.le_of_ble_eq_true rfl) ?_
    exact g_ireturn dX3_courses_24 (by simp_all [f_courses, oV, fvl_0, bI_0]) (hQ_0 _ _ (by simp_all [f_courses, bI_0]))
  · refine g_iload_n dX3_courses_11 rfl ?_
    refine g_callS1i (c_X3_isTown) mi_X3_isTown ms_X3_isTown ml_X3_67 dX3_courses_12 (by decide) (Nat.le_of_ble_eq_true rfl) (Nat.le_of_ble_eq_true rfl) ?_
    refine g_if_ne 25 dX3_courses_15 (by decide) (fun c15 => ?_) (fun c15 => ?_)
    · obtain ⟨e, le, he, te, rfl⟩ := isG_of2 hI (nb0 c8)
      refine g_aload_n dX3_courses_25 rfl ?_
      refine g_getR dX3_courses_26 fl_X3_12 rfl rfl ?_
      refine g_iload_n dX3_courses_29 rfl ?_
      refine g_iconst dX3_courses_30 ic_1 ?_
      refine g_callV2i (c_X0_guestFact (w := 1) inn1 he (by decide)) mi_X0_guestFact mv_X0_guestFact ml_X3_107 dX3_courses_31 rfl rfl (by decide) (Nat.le_of_ble_eq_true rfl) (Nat.le_of_ble_eq_true rfl) ?_
      refine g_iload_n dX3_courses_34 rfl ?_
      refine g_icmp_ne 40 dX3_courses_35 (by decide) (fun c35 => ?_) (fun c35 => ?_)
      · refine g_aload_n dX3_courses_40 rfl ?_
        refine g_getR dX3_courses_41 fl_X3_19 rfl rfl ?_
        refine g_aload_n dX3_courses_44 rfl ?_
        refine g_getR dX3_courses_45 fl_X3_12 rfl rfl ?_
        refine g_callV1v (c_X0_become inn3 inn1 (by decide) (by decide)) mi_X0_become mv_X0_become ml_X3_169 dX3_courses_48 rfl rfl (by decide) (Nat.le_of_ble_eq_true rfl) (Nat.le_of_ble_eq_true rfl) ?_
        refine g_iconst dX3_courses_51 ic_1 ?_
        refine g_istore_n dX3_courses_52 (by decide) rfl ?_
        have ef : f_courses (h 1) (nI e) t = oF (h 1) (fst1 (fun n => lead e t n (h 1)) 1 4) := by rw [f_courses, if_pos (by rw [nb0 c8, nb0 c15]; rfl), te, if_neg c35]
        have en : ¬ gF (h 1) (tn (nI e)) 1 = t := by rw [te]; exact c35
        rw [if_neg en, ← hQ_x h _ _ ef, ef]
        exact l_X3_courses hI he 1 (by decide) (by decide) rfl
      · refine g_iconst dX3_courses_38 ic_0 ?_
        exact g_ireturn dX3_courses_39 (by rw [f_courses, if_pos (by rw [nb0 c8, nb0 c15]; rfl), te, if_pos c35]; rfl) (by rw [f_courses, if_pos (by rw [nb0 c8, nb0 c15]; rfl), te, if_pos c35, if_pos c35]; exact hC0 h 0)
    · refine g_aload_n dX3_courses_18 rfl ?_
      refine g_ldc dX3_courses_19 lc_X3_52 ?_
      refine g_callV1i (c_X3_found 0 (by decide) (by decide)) mi_X3_found mv_X3_found ml_X3_53 dX3_courses_21 rfl rfl (by decide) (Nat.le_of_ble_eq_true rfl) (Nat.le_of_ble_eq_true rfl) ?_
      exact g_ireturn dX3_courses_24 (by simp_all [f_courses, oV, fvl_0, bI_0]) (hQ_0 _ _ (by simp_all [f_courses, bI_0]))

