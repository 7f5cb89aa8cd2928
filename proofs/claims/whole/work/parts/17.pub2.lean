/-! WHAT WILL BE -/
def oX (h : Hp) (t : Rw) : Option Nat → Hp
  | some _ => setg h 3 t
  | none => setg (setg h 3 t) 5 (inc ((setg h 3 t) 5) 3)
def oF (m : Rw) : Option Nat → Oc
  | some n => .inr (nI n, m)
  | none => .inl 3
/-- the class's state behind a question: its trial has become T (unless the question was BEYOND) -/
def hQt (T t3 : Rw) : Oc → Rw
  | .inl k => if k = 3 then T else t3
  | .inr _ => T
def hQ (h : Hp) (F : Oc) (T : Rw) : Hp := setg (oC h F) 3 (hQt T (h 3) F)
theorem hQ_k (h : Hp) (T : Rw) (k : Nat) (n : k ≠ 3) {F : Oc} (e : F = .inl k) : setg h 5 (inc (h 5) k) = hQ h F T := by
  subst e
  show _ = setg (setg h 5 (inc (h 5) k)) 3 (if k = 3 then T else h 3)
  rw [if_neg n]
  funext a
  by_cases q : a = 3
  · subst q; simp [setg]
  · simp [setg, q]
theorem hQ_0 (h : Hp) (T : Rw) {F : Oc} (e : F = .inl 0) : setg h 5 (inc (h 5) 0) = hQ h F T := hQ_k h T 0 (by decide) e
theorem hQ_v (h : Hp) (T : Rw) {F : Oc} {v : Int32} (e : F = .inr (v, h 1)) : setg h 3 T = hQ h F T := by
  subst e
  simp [hQ, oC, setg_id, hQt]
theorem hQ_x (h : Hp) (T : Rw) (q : Option Nat) {F : Oc} (e : F = oF (h 1) q) : oX h T q = hQ h F T := by
  subst e
  cases q with
  | some n => simp [hQ, oX, oF, oC, setg_id, hQt]
  | none =>
    simp only [hQ, oX, oF, oC, hQt]
    rw [if_pos trivial, setg_c _ (by decide), setg_n _ _ (by decide)]
/-- the first of n places from k on where p holds -/
def fst1 (p : Nat → Bool) : Nat → Nat → Option Nat
  | _, 0 => none
  | k, n + 1 => if p k then some k else fst1 p (k + 1) n
theorem fst_y {p : Nat → Bool} {k n : Nat} (h : p k = true) (hn : k < n) : fst1 p k (n - k) = some k := by
  obtain ⟨j, hj⟩ : ∃ j, n - k = j + 1 := ⟨n - k - 1, by omega⟩
  rw [hj, fst1, if_pos h]
theorem fst_n {p : Nat → Bool} {k n : Nat} (h : p k = false) (hn : k < n) : fst1 p k (n - k) = fst1 p (k + 1) (n - (k + 1)) := by
  obtain ⟨j, hj⟩ : ∃ j, n - k = j + 1 := ⟨n - k - 1, by omega⟩
  rw [hj, fst1, h, show n - (k + 1) = j by omega]
  rfl
theorem fst_0 {p : Nat → Bool} {n : Nat} : fst1 p n (n - n) = none := by rw [Nat.sub_self]; rfl
def f_ahead (m : Rw) (g k n : Int32) : Oc := if isG m g && inB k 0 4 && inB n 0 100 then .inr (gF (daysR m (tn n)) (tn g) (tn k), m) else .inl 0
def f_served (m : Rw) (d n : Int32) : Oc := if isD m d && inB n 0 100 then .inr (dF (daysR m (tn n)) (tn d) 4, m) else .inl 0
def p_when (m : Rw) (g : Nat) (t : Int32) (n : Nat) : Bool := decide (gF (daysR m n) g 1 = t)
def p_owes (m : Rw) (g : Nat) (v : Int32) (n : Nat) : Bool := !decide (gF (daysR m n) g 2 < v)
def p_part (m : Rw) (a b : Nat) (n : Nat) : Bool := !decide (gF (daysR m n) a 1 = gF (daysR m n) b 1)
def f_when (m : Rw) (g t : Int32) : Oc := if isG m g && inB t 0 11 then oF m (fst1 (p_when m (tn g) t) 0 201) else .inl 0
def f_owes (m : Rw) (g v : Int32) : Oc := if isG m g && inB v 0 99999 then oF m (fst1 (p_owes m (tn g) v) 0 201) else .inl 0
def f_part (m : Rw) (a b : Int32) : Oc := if isG m a && isG m b && !decide (a = b) then oF m (fst1 (p_part m (tn a) (tn b)) 0 201) else .inl 0
/-- the best of the first k: the first at which f is least (none: least is a million) -/
def bst (f : Nat → Int32) : Nat → Int32 × Int32
  | 0 => (0, 1000000)
  | k + 1 => if f k < (bst f k).2 then (nI k, f k) else bst f k
def bilA (m : Rw) : Int32 := bilS m (nG m)
def rowL (m : Rw) (i d : Nat) : Rw := upd m (4 + i) (nI (10 * (tn (m (4 + i)) / 10) + d))
def f_dishFor (m : Rw) (i n : Int32) : Oc := if inB i 0 5 && inB n 0 60 then .inr ((bst (fun d => bilA (daysR (rowL m (tn i) d) (tn n))) 8).1, m) else .inl 0
def f_kindFor (m : Rw) (d n : Int32) : Oc := if isD m d && inB n 0 60 then .inr ((bst (fun k => bilA (daysR (pD m (tn d) 0 (nI k)) (tn n))) 7).1, m) else .inl 0
def p_bent (m : Rw) (g n : Nat) (t : Int32) (b : Nat) : Bool := decide (gF (daysR (pG m g 0 (nI b)) n) g 1 = t)
def f_bentFor (m : Rw) (g t n : Int32) : Oc := if isG m g && inB t 0 11 && inB n 0 60 then oF m (fst1 (p_bent m (tn g) (tn n) t) 0 100) else .inl 0
theorem In.rowL {m : Rw} (h : In m) {i d : Nat} (hi : i < 6) (hd : d < 8) : In (rowL m i d) := by
  obtain ⟨q, h6, h8, e⟩ := h.meal hi
  have et : tn (m (4 + i)) = q := by rw [e]; exact nI_clamp (by omega)
  unfold Jvm.Pilot.CForkInnLaw_law_r3082_bfc7c5.rowL
  rw [et]
  refine h.upd (by omega) (by omega) (by omega) ?_
  unfold okc
  rw [if_neg (by omega), if_neg (by omega), if_neg (by omega), if_pos (by omega)]
  omega
set_option maxRecDepth 100000 in
set_option maxHeartbeats 4000000 in
theorem c_X3_ahead {X : Sc} {h : Hp} (hI : In (h 1)) {g k n : Int32} : Ct X yX3_ahead cX3_ahead 4 (some .int) 5 [.ref 0, .int g, .int k, .int n] h (some (.int (oV (f_ahead (h 1) g k n)))) (hQ h (f_ahead (h 1) g k n) (daysR (h 1) (tn n))) := by
  refine ⟨rfl, ?_⟩
  refine g_aload_n dX3_ahead_0 rfl ?_
  refine g_getR dX3_ahead_1 fl_X3_12 rfl rfl ?_
  refine g_iload_n dX3_ahead_4 rfl ?_
  refine g_callV1i (c_X0_isGuest inn1) mi_X0_isGuest mv_X0_isGuest ml_X3_101 dX3_ahead_5 rfl rfl (by decide) (Nat.le_of_ble_eq_true rfl) (Nat.le_of_ble_eq_true rfl) ?_
  refine g_if_eq 28 dX3_ahead_8 (by decide) (fun c8 => ?_) (fun c8 => ?_)
  · refine g_aload_n dX3_ahead_28 rfl ?_
    refine g_ldc dX3_ahead_29 lc_X3_52 ?_
    refine g_callV1i (c_X3_found 0 (by decide) (by decide)) mi_X3_found mv_X3_found ml_X3_53 dX3_ahead_31 rfl rfl (by decide) (Nat.le_of_ble_eq_true rfl) (Nat.le_of_ble_eq_true rfl) ?_
    exact g_ireturn dX3_ahead_34 (by simp_all [f_ahead, oV, fvl_0, fvl_1, fvl_2, fvl_3, fvl_4, fvl_5, fvl_6, bI_0, setg_s]) (by first | exact hQ_0 _ _ (by simp_all [f_ahead, bI_0]) | (rw [setg_s, setg_2]; simp_all only []; exact hQ_v _ _ (by simp_all [f_ahead, bI_0]; try rfl)))
  · refine g_iload_n dX3_ahead_11 rfl ?_
    refine g_callS1i (c_X3_isGuestFact) mi_X3_isGuestFact ms_X3_isGuestFact ml_X3_104 dX3_ahead_12 (by decide) (Nat.le_of_ble_eq_true rfl) (Nat.le_of_ble_eq_true rfl) ?_
    refine g_if_eq 28 dX3_ahead_15 (by decide) (fun c15 => ?_) (fun c15 => ?_)
    · refine g_aload_n dX3_ahead_28 rfl ?_
      refine g_ldc dX3_ahead_29 lc_X3_52 ?_
      refine g_callV1i (c_X3_found 0 (by decide) (by decide)) mi_X3_found mv_X3_found ml_X3_53 dX3_ahead_31 rfl rfl (by decide) (Nat.le_of_ble_eq_true rfl) (Nat.le_of_ble_eq_true rfl) ?_
      exact g_ireturn dX3_ahead_34 (by simp_all [f_ahead, oV, fvl_0, fvl_1, fvl_2, fvl_3, fvl_4, fvl_5, fvl_6, bI_0, setg_s]) (by first | exact hQ_0 _ _ (by simp_all [f_ahead, bI_0]) | (rw [setg_s, setg_2]; simp_all only []; exact hQ_v _ _ (by simp_all [f_ahead, bI_0]; try rfl)))
    · refine g_iload_n dX3_ahead_18 rfl ?_
      refine g_iconst dX3_ahead_19 ic_0 ?_
      refine g_bipush dX3_ahead_20 bp_100 ?_
      refine g_callS3i (c_X3_within) mi_X3_within ms_X3_within ml_X3_48 dX3_ahead_22 (by decide) (Nat.le_of_ble_eq_true rfl) (Nat.le_of_ble_eq_true rfl) ?_
      refine g_if_ne 35 dX3_ahead_25 (by decide) (fun c25 => ?_) (fun c25 => ?_)
      · obtain ⟨e, le, he, te, rfl⟩ := isG_of2 hI (nb0 c8)
        obtain ⟨i, hi, ti, rfl⟩ := inB_of 4 (by decide) (nb0 c15)
        obtain ⟨j, hj, tj, rfl⟩ := inB_of 100 (by decide) (nb0 c25)
        refine g_aload_n dX3_ahead_35 rfl ?_
        refine g_getR dX3_ahead_36 fl_X3_19 rfl rfl ?_
        refine g_aload_n dX3_ahead_39 rfl ?_
        refine g_getR dX3_ahead_40 fl_X3_12 rfl rfl ?_
        refine g_callV1v (c_X0_become inn3 inn1 (by decide) (by decide)) mi_X0_become mv_X0_become ml_X3_169 dX3_ahead_43 rfl rfl (by decide) (Nat.le_of_ble_eq_true rfl) (Nat.le_of_ble_eq_true rfl) ?_
        refine g_aload_n dX3_ahead_46 rfl ?_
        refine g_getR dX3_ahead_47 fl_X3_19 rfl rfl ?_
        refine g_iload_n dX3_ahead_50 rfl ?_
        refine g_callV1v (c_X0_passDays inn3 (by rw [setg_s]; exact hI) (by omega)) mi_X0_passDays mv_X0_passDays ml_X3_143 dX3_ahead_51 rfl rfl (by decide) (Nat.le_of_ble_eq_true rfl) (Nat.le_of_ble_eq_true rfl) ?_
        refine g_aload_n dX3_ahead_54 rfl ?_
        refine g_getR dX3_ahead_55 fl_X3_19 rfl rfl ?_
        refine g_iload_n dX3_ahead_58 rfl ?_
        refine g_iload_n dX3_ahead_59 rfl ?_
        refine g_callV2i (c_X0_guestFact inn3 he (by omega)) mi_X0_guestFact mv_X0_guestFact ml_X3_107 dX3_ahead_60 rfl rfl (by decide) (Nat.le_of_ble_eq_true rfl) (Nat.le_of_ble_eq_true rfl) ?_
        exact g_ireturn dX3_ahead_63 (by simp_all [f_ahead, oV, fvl_0, fvl_1, fvl_2, fvl_3, fvl_4, fvl_5, fvl_6, bI_0, setg_s]) (by first | exact hQ_0 _ _ (by simp_all [f_ahead, bI_0]) | (rw [setg_s, setg_2]; simp_all only []; exact hQ_v _ _ (by simp_all [f_ahead, bI_0]; try rfl)))
      · refine g_aload_n dX3_ahead_28 rfl ?_
        refine g_ldc dX3_ahead_29 lc_X3_52 ?_
        refine g_callV1i (c_X3_found 0 (by decide) (by decide)) mi_X3_found mv_X3_found ml_X3_53 dX3_ahead_31 rfl rfl (by decide) (Nat.le_of_ble_eq_true rfl) (Nat.le_of_ble_eq_true rfl) ?_
        exact g_ireturn dX3_ahead_34 (by simp_all [f_ahead, oV, fvl_0, fvl_1, fvl_2, fvl_3, fvl_4, fvl_5, fvl_6, bI_0, setg_s]) (by first | exact hQ_0 _ _ (by simp_all [f_ahead, bI_0]) | (rw [setg_s, setg_2]; simp_all only []; exact hQ_v _ _ (by simp_all [f_ahead, bI_0]; try rfl)))

set_option maxRecDepth 100000 in
set_option maxHeartbeats 4000000 in
theorem c_X3_served {X : Sc} {h : Hp} (hI : In (h 1)) {d n : Int32} : Ct X yX3_served cX3_served 3 (some .int) 5 [.ref 0, .int d, .int n] h (some (.int (oV (f_served (h 1) d n)))) (hQ h (f_served (h 1) d n) (daysR (h 1) (tn n))) := by
  refine ⟨rfl, ?_⟩
  refine g_aload_n dX3_served_0 rfl ?_
  refine g_getR dX3_served_1 fl_X3_12 rfl rfl ?_
  refine g_iload_n dX3_served_4 rfl ?_
  refine g_callV1i (c_X0_isDish inn1) mi_X0_isDish mv_X0_isDish ml_X3_88 dX3_served_5 rfl rfl (by decide) (Nat.le_of_ble_eq_true rfl) (Nat.le_of_ble_eq_true rfl) ?_
  refine g_if_eq 21 dX3_served_8 (by decide) (fun c8 => ?_) (fun c8 => ?_)
  · refine g_aload_n dX3_served_21 rfl ?_
    refine g_ldc dX3_served_22 lc_X3_52 ?_
    refine g_callV1i (c_X3_found 0 (by decide) (by decide)) mi_X3_found mv_X3_found ml_X3_53 dX3_served_24 rfl rfl (by decide) (Nat.le_of_ble_eq_true rfl) (Nat.le_of_ble_eq_true rfl) ?_
    exact g_ireturn dX3_served_27 (by simp_all [f_served, oV, fvl_0, fvl_1, fvl_2, fvl_3, fvl_4, fvl_5, fvl_6, bI_0, setg_s]) (by first | exact hQ_0 _ _ (by simp_all [f_served, bI_0]) | (rw [setg_s, setg_2]; simp_all only []; exact hQ_v _ _ (by simp_all [f_served, bI_0]; try rfl)))
  · refine g_iload_n dX3_served_11 rfl ?_
    refine g_iconst dX3_served_12 ic_0 ?_
    refine g_bipush dX3_served_13 bp_100 ?_
    refine g_callS3i (c_X3_within) mi_X3_within ms_X3_within ml_X3_48 dX3_served_15 (by decide) (Nat.le_of_ble_eq_true rfl) (Nat.le_of_ble_eq_true rfl) ?_
    refine g_if_ne 28 dX3_served_18 (by decide) (fun c18 => ?_) (fun c18 => ?_)
    · obtain ⟨e, le, he, te, rfl⟩ := isD_of2 hI (nb0 c8)
      obtain ⟨j, hj, tj, rfl⟩ := inB_of 100 (by decide) (nb0 c18)
      refine g_aload_n dX3_served_28 rfl ?_
      refine g_getR dX3_served_29 fl_X3_19 rfl rfl ?_
      refine g_aload_n dX3_served_32 rfl ?_
      refine g_getR dX3_served_33 fl_X3_12 rfl rfl ?_
      refine g_callV1v (c_X0_become inn3 inn1 (by decide) (by decide)) mi_X0_become mv_X0_become ml_X3_169 dX3_served_36 rfl rfl (by decide) (Nat.le_of_ble_eq_true rfl) (Nat.le_of_ble_eq_true rfl) ?_
      refine g_aload_n dX3_served_39 rfl ?_
      refine g_getR dX3_served_40 fl_X3_19 rfl rfl ?_
      refine g_iload_n dX3_served_43 rfl ?_
      refine g_callV1v (c_X0_passDays inn3 (by rw [setg_s]; exact hI) (by omega)) mi_X0_passDays mv_X0_passDays ml_X3_143 dX3_served_44 rfl rfl (by decide) (Nat.le_of_ble_eq_true rfl) (Nat.le_of_ble_eq_true rfl) ?_
      refine g_aload_n dX3_served_47 rfl ?_
      refine g_getR dX3_served_48 fl_X3_19 rfl rfl ?_
      refine g_iload_n dX3_served_51 rfl ?_
      refine g_iconst dX3_served_52 ic_4 ?_
      refine g_callV2i (c_X0_dishFact (w := 4) inn3 he (by decide)) mi_X0_dishFact mv_X0_dishFact ml_X3_91 dX3_served_53 rfl rfl (by decide) (Nat.le_of_ble_eq_true rfl) (Nat.le_of_ble_eq_true rfl) ?_
      exact g_ireturn dX3_served_56 (by simp_all [f_served, oV, fvl_0, fvl_1, fvl_2, fvl_3, fvl_4, fvl_5, fvl_6, bI_0, setg_s]) (by first | exact hQ_0 _ _ (by simp_all [f_served, bI_0]) | (rw [setg_s, setg_2]; simp_all only []; exact hQ_v _ _ (by simp_all [f_served, bI_0]; try rfl)))
    · refine g_aload_n dX3_served_21 rfl ?_
      refine g_ldc dX3_served_22 lc_X3_52 ?_
      refine g_callV1i (c_X3_found 0 (by decide) (by decide)) mi_X3_found mv_X3_found ml_X3_53 dX3_served_24 rfl rfl (by decide) (Nat.le_of_ble_eq_true rfl) (Nat.le_of_ble_eq_true rfl) ?_
      exact g_ireturn dX3_served_27 (by simp_all [f_served, oV, fvl_0, fvl_1, fvl_2, fvl_3, fvl_4, fvl_5, fvl_6, bI_0, setg_s]) (by first | exact hQ_0 _ _ (by simp_all [f_served, bI_0]) | (rw [setg_s, setg_2]; simp_all only []; exact hQ_v _ _ (by simp_all [f_served, bI_0]; try rfl)))

set_option maxRecDepth 100000 in
set_option maxHeartbeats 4000000 in
theorem l_X3_when {X : Sc} {h : Hp} (hI : In (h 1)) {e : Nat} (he : e < 6) {t : Int32} : ∀ k, k ≤ 201 → fst1 (p_when (h 1) e t) 0 201 = fst1 (p_when (h 1) e t) k (201 - k) → Go X RX3 cX3_when 4 5 38 [.ref 0, .int (nI e), .int t, .int (nI k)] [] (setg h 3 (daysR (h 1) k)) (some (.int (oV (oF (h 1) (fst1 (p_when (h 1) e t) 0 201))))) (oX h (match fst1 (p_when (h 1) e t) 0 201 with | some q => daysR (h 1) q | none => daysR (h 1) 201) (fst1 (p_when (h 1) e t) 0 201)) := by
  refine loop_up (201) ?_ ?_
  · intro hy
    refine g_iload_n dX3_when_38 rfl ?_
    refine g_sipush dX3_when_39 sp_200 ?_
    refine g_icmp_gt 73 dX3_when_42 (by decide) (fun c42 => ?_) (fun c42 => ?_)
    · refine g_aload_n dX3_when_73 rfl ?_
      refine g_ldc dX3_when_74 lc_X3_176 ?_
      refine g_callV1i (c_X3_found 3 (by decide) (by decide)) mi_X3_found mv_X3_found ml_X3_53 dX3_when_76 rfl rfl (by decide) (Nat.le_of_ble_eq_true rfl) (Nat.le_of_ble_eq_true rfl) ?_
      exact g_ireturn dX3_when_79 (by rw [hy, fst_0]; rfl) (by rw [hy, fst_0]; rfl)
    · exact absurd (nI_lt (a := 200) (b := 201) (by decide) (by decide)) c42
  · intro k hk ih hy
    refine g_iload_n dX3_when_38 rfl ?_
    refine g_sipush dX3_when_39 sp_200 ?_
    refine g_icmp_gt 73 dX3_when_42 (by decide) (fun c42 => ?_) (fun c42 => ?_)
    · exact absurd c42 (nI_nlt (a := 200) (b := k) (by omega) (by decide))
    · refine g_aload_n dX3_when_45 rfl ?_
      refine g_getR dX3_when_46 fl_X3_19 rfl rfl ?_
      refine g_iload_n dX3_when_49 rfl ?_
      refine g_iconst dX3_when_50 ic_1 ?_
      refine g_callV2i (c_X0_guestFact (w := 1) inn3 he (by decide)) mi_X0_guestFact mv_X0_guestFact ml_X3_107 dX3_when_51 rfl rfl (by decide) (Nat.le_of_ble_eq_true rfl) (Nat.le_of_ble_eq_true rfl) ?_
      refine g_iload_n dX3_when_54 rfl ?_
      refine g_icmp_ne 60 dX3_when_55 (by decide) (fun c55 => ?_) (fun c55 => ?_)
      · refine g_aload_n dX3_when_60 rfl ?_
        refine g_getR dX3_when_61 fl_X3_19 rfl rfl ?_
        refine g_callV0v (c_X0_passDay inn3 (by rw [setg_s]; exact hI.days k)) mi_X0_passDay mv_X0_passDay ml_X3_173 dX3_when_64 rfl rfl (by decide) (Nat.le_of_ble_eq_true rfl) (Nat.le_of_ble_eq_true rfl) ?_
        refine g_iinc dX3_when_67 rfl (ii_n _) (by decide) rfl ?_
        refine g_goto 38 dX3_when_70 (by decide) ?_
        exact g_h (by rw [setg_s, setg_2]; rfl) (ih (by rw [hy, fst_n (by simp_all [p_when, setg_s]) (by omega)]))
      · refine g_iload_n dX3_when_58 rfl ?_
        exact g_ireturn dX3_when_59 (by rw [hy, fst_y (by simp_all [p_when, setg_s]) (by omega)]; rfl) (by rw [hy, fst_y (by simp_all [p_when, setg_s]) (by omega)]; rfl)

set_option maxRecDepth 100000 in
set_option maxHeartbeats 4000000 in
theorem l_X3_owes {X : Sc} {h : Hp} (hI : In (h 1)) {e : Nat} (he : e < 6) {v : Int32} : ∀ k, k ≤ 201 → fst1 (p_owes (h 1) e v) 0 201 = fst1 (p_owes (h 1) e v) k (201 - k) → Go X RX3 cX3_owes 4 5 41 [.ref 0, .int (nI e), .int v, .int (nI k)] [] (setg h 3 (daysR (h 1) k)) (some (.int (oV (oF (h 1) (fst1 (p_owes (h 1) e v) 0 201))))) (oX h (match fst1 (p_owes (h 1) e v) 0 201 with | some q => daysR (h 1) q | none => daysR (h 1) 201) (fst1 (p_owes (h 1) e v) 0 201)) := by
  refine loop_up (201) ?_ ?_
  · intro hy
    refine g_iload_n dX3_owes_41 rfl ?_
    refine g_sipush dX3_owes_42 sp_200 ?_
    refine g_icmp_gt 76 dX3_owes_45 (by decide) (fun c45 => ?_) (fun c45 => ?_)
    · refine g_aload_n dX3_owes_76 rfl ?_
      refine g_ldc dX3_owes_77 lc_X3_176 ?_
      refine g_callV1i (c_X3_found 3 (by decide) (by decide)) mi_X3_found mv_X3_found ml_X3_53 dX3_owes_79 rfl rfl (by decide) (Nat.le_of_ble_eq_true rfl) (Nat.le_of_ble_eq_true rfl) ?_
      exact g_ireturn dX3_owes_82 (by rw [hy, fst_0]; rfl) (by rw [hy, fst_0]; rfl)
    · exact absurd (nI_lt (a := 200) (b := 201) (by decide) (by decide)) c45
  · intro k hk ih hy
    refine g_iload_n dX3_owes_41 rfl ?_
    refine g_sipush dX3_owes_42 sp_200 ?_
    refine g_icmp_gt 76 dX3_owes_45 (by decide) (fun c45 => ?_) (fun c45 => ?_)
    · exact absurd c45 (nI_nlt (a := 200) (b := k) (by omega) (by decide))
    · refine g_aload_n dX3_owes_48 rfl ?_
      refine g_getR dX3_owes_49 fl_X3_19 rfl rfl ?_
      refine g_iload_n dX3_owes_52 rfl ?_
      refine g_iconst dX3_owes_53 ic_2 ?_
      refine g_callV2i (c_X0_guestFact (w := 2) inn3 he (by decide)) mi_X0_guestFact mv_X0_guestFact ml_X3_107 dX3_owes_54 rfl rfl (by decide) (Nat.le_of_ble_eq_true rfl) (Nat.le_of_ble_eq_true rfl) ?_
      refine g_iload_n dX3_owes_57 rfl ?_
      refine g_icmp_lt 63 dX3_owes_58 (by decide) (fun c58 => ?_) (fun c58 => ?_)
      · refine g_aload_n dX3_owes_63 rfl ?_
        refine g_getR dX3_owes_64 fl_X3_19 rfl rfl ?_
        refine g_callV0v (c_X0_passDay inn3 (by rw [setg_s]; exact hI.days k)) mi_X0_passDay mv_X0_passDay ml_X3_173 dX3_owes_67 rfl rfl (by decide) (Nat.le_of_ble_eq_true rfl) (Nat.le_of_ble_eq_true rfl) ?_
        refine g_iinc dX3_owes_70 rfl (ii_n _) (by decide) rfl ?_
        refine g_goto 41 dX3_owes_73 (by decide) ?_
        exact g_h (by rw [setg_s, setg_2]; rfl) (ih (by rw [hy, fst_n (by simp_all [p_owes, setg_s]) (by omega)]))
      · refine g_iload_n dX3_owes_61 rfl ?_
        exact g_ireturn dX3_owes_62 (by rw [hy, fst_y (by simp_all [p_owes, setg_s]) (by omega)]; rfl) (by rw [hy, fst_y (by simp_all [p_owes, setg_s]) (by omega)]; rfl)

set_option maxRecDepth 100000 in
set_option maxHeartbeats 4000000 in
theorem l_X3_part {X : Sc} {h : Hp} (hI : In (h 1)) {a b : Nat} (ha : a < 6) (hb : b < 6) : ∀ k, k ≤ 201 → fst1 (p_part (h 1) a b) 0 201 = fst1 (p_part (h 1) a b) k (201 - k) → Go X RX3 cX3_part 4 5 47 [.ref 0, .int (nI a), .int (nI b), .int (nI k)] [] (setg h 3 (daysR (h 1) k)) (some (.int (oV (oF (h 1) (fst1 (p_part (h 1) a b) 0 201))))) (oX h (match fst1 (p_part (h 1) a b) 0 201 with | some q => daysR (h 1) q | none => daysR (h 1) 201) (fst1 (p_part (h 1) a b) 0 201)) := by
  refine loop_up (201) ?_ ?_
  · intro hy
    refine g_iload_n dX3_part_47 rfl ?_
    refine g_sipush dX3_part_48 sp_200 ?_
    refine g_icmp_gt 90 dX3_part_51 (by decide) (fun c51 => ?_) (fun c51 => ?_)
    · refine g_aload_n dX3_part_90 rfl ?_
      refine g_ldc dX3_part_91 lc_X3_176 ?_
      refine g_callV1i (c_X3_found 3 (by decide) (by decide)) mi_X3_found mv_X3_found ml_X3_53 dX3_part_93 rfl rfl (by decide) (Nat.le_of_ble_eq_true rfl) (Nat.le_of_ble_eq_true rfl) ?_
      exact g_ireturn dX3_part_96 (by rw [hy, fst_0]; rfl) (by rw [hy, fst_0]; rfl)
    · exact absurd (nI_lt (a := 200) (b := 201) (by decide) (by decide)) c51
  · intro k hk ih hy
    refine g_iload_n dX3_part_47 rfl ?_
    refine g_sipush dX3_part_48 sp_200 ?_
    refine g_icmp_gt 90 dX3_part_51 (by decide) (fun c51 => ?_) (fun c51 => ?_)
    · exact absurd c51 (nI_nlt (a := 200) (b := k) (by omega) (by decide))
    · refine g_aload_n dX3_part_54 rfl ?_
      refine g_getR dX3_part_55 fl_X3_19 rfl rfl ?_
      refine g_iload_n dX3_part_58 rfl ?_
      refine g_iconst dX3_part_59 ic_1 ?_
      refine g_callV2i (c_X0_guestFact (w := 1) inn3 ha (by decide)) mi_X0_guestFact mv_X0_guestFact ml_X3_107 dX3_part_60 rfl rfl (by decide) (Nat.le_of_ble_eq_true rfl) (Nat.le_of_ble_eq_true rfl) ?_
      refine g_aload_n dX3_part_63 rfl ?_
      refine g_getR dX3_part_64 fl_X3_19 rfl rfl ?_
      refine g_iload_n dX3_part_67 rfl ?_
      refine g_iconst dX3_part_68 ic_1 ?_
      refine g_callV2i (c_X0_guestFact (w := 1) inn3 hb (by decide)) mi_X0_guestFact mv_X0_guestFact ml_X3_107 dX3_part_69 rfl rfl (by decide) (Nat.le_of_ble_eq_true rfl) (Nat.le_of_ble_eq_true rfl) ?_
      refine g_icmp_eq 77 dX3_part_72 (by decide) (fun c72 => ?_) (fun c72 => ?_)
      · refine g_aload_n dX3_part_77 rfl ?_
        refine g_getR dX3_part_78 fl_X3_19 rfl rfl ?_
        refine g_callV0v (c_X0_passDay inn3 (by rw [setg_s]; exact hI.days k)) mi_X0_passDay mv_X0_passDay ml_X3_173 dX3_part_81 rfl rfl (by decide) (Nat.le_of_ble_eq_true rfl) (Nat.le_of_ble_eq_true rfl) ?_
        refine g_iinc dX3_part_84 rfl (ii_n _) (by decide) rfl ?_
        refine g_goto 47 dX3_part_87 (by decide) ?_
        exact g_h (by rw [setg_s, setg_2]; rfl) (ih (by rw [hy, fst_n (by simp_all [p_part, setg_s]) (by omega)]))
      · refine g_iload_n dX3_part_75 rfl ?_
        exact g_ireturn dX3_part_76 (by rw [hy, fst_y (by simp_all [p_part, setg_s]) (by omega)]; rfl) (by rw [hy, fst_y (by simp_all [p_part, setg_s]) (by omega)]; rfl)

set_option maxRecDepth 100000 in
set_option maxHeartbeats 4000000 in
theorem c_X3_when {X : Sc} {h : Hp} (hI : In (h 1)) {g t : Int32} : Ct X yX3_when cX3_when 4 (some .int) 5 [.ref 0, .int g, .int t] h (some (.int (oV (f_when (h 1) g t)))) (hQ h (f_when (h 1) g t) (match fst1 (p_when (h 1) (tn g) t) 0 201 with | some q => daysR (h 1) q | none => daysR (h 1) 201)) := by
  refine ⟨rfl, ?_⟩
  refine g_aload_n dX3_when_0 rfl ?_
  refine g_getR dX3_when_1 fl_X3_12 rfl rfl ?_
  refine g_iload_n dX3_when_4 rfl ?_
  refine g_callV1i (c_X0_isGuest inn1) mi_X0_isGuest mv_X0_isGuest ml_X3_101 dX3_when_5 rfl rfl (by decide) (Nat.le_of_ble_eq_true rfl) (Nat.le_of_ble_eq_true rfl) ?_
  refine g_if_eq 18 dX3_when_8 (by decide) (fun c8 => ?_) (fun c8 => ?_)
  · refine g_aload_n dX3_when_18 rfl ?_
    refine g_ldc dX3_when_19 lc_X3_52 ?_
    refine g_callV1i (c_X3_found 0 (by decide) (by decide)) mi_X3_found mv_X3_found ml_X3_53 dX3_when_21 rfl rfl (by decide) (Nat.le_of_ble_eq_true rfl) (Nat.le_of_ble_eq_true rfl) ?_
    exact g_ireturn dX3_when_24 (by simp_all [f_when, oV, fvl_0, fvl_1, fvl_2, fvl_3, fvl_4, fvl_5, fvl_6, bI_0, setg_s]) (hQ_0 _ _ (by simp_all [f_when, bI_0]))
  · refine g_iload_n dX3_when_11 rfl ?_
    refine g_callS1i (c_X3_isTown) mi_X3_isTown ms_X3_isTown ml_X3_67 dX3_when_12 (by decide) (Nat.le_of_ble_eq_true rfl) (Nat.le_of_ble_eq_true rfl) ?_
    refine g_if_ne 25 dX3_when_15 (by decide) (fun c15 => ?_) (fun c15 => ?_)
    · obtain ⟨e, le, he, te, rfl⟩ := isG_of2 hI (nb0 c8)
      refine g_aload_n dX3_when_25 rfl ?_
      refine g_getR dX3_when_26 fl_X3_19 rfl rfl ?_
      refine g_aload_n dX3_when_29 rfl ?_
      refine g_getR dX3_when_30 fl_X3_12 rfl rfl ?_
      refine g_callV1v (c_X0_become inn3 inn1 (by decide) (by decide)) mi_X0_become mv_X0_become ml_X3_169 dX3_when_33 rfl rfl (by decide) (Nat.le_of_ble_eq_true rfl) (Nat.le_of_ble_eq_true rfl) ?_
      refine g_iconst dX3_when_36 ic_0 ?_
      refine g_istore_n dX3_when_37 (by decide) rfl ?_
      have ef : f_when (h 1) (nI e) t = oF (h 1) (fst1 (p_when (h 1) e t) 0 201) := by simp_all [f_when, bI_0]
      rw [te, ← hQ_x h _ _ ef, ef]
      exact l_X3_when hI he 0 (by decide) rfl
    · refine g_aload_n dX3_when_18 rfl ?_
      refine g_ldc dX3_when_19 lc_X3_52 ?_
      refine g_callV1i (c_X3_found 0 (by decide) (by decide)) mi_X3_found mv_X3_found ml_X3_53 dX3_when_21 rfl rfl (by decide) (Nat.le_of_ble_eq_true rfl) (Nat.le_of_ble_eq_true rfl) ?_
      exact g_ireturn dX3_when_24 (by simp_all [f_when, oV, fvl_0, fvl_1, fvl_2, fvl_3, fvl_4, fvl_5, fvl_6, bI_0, setg_s]) (hQ_0 _ _ (by simp_all [f_when, bI_0]))

set_option maxRecDepth 100000 in
set_option maxHeartbeats 4000000 in
theorem c_X3_owes {X : Sc} {h : Hp} (hI : In (h 1)) {g v : Int32} : Ct X yX3_owes cX3_owes 4 (some .int) 5 [.ref 0, .int g, .int v] h (some (.int (oV (f_owes (h 1) g v)))) (hQ h (f_owes (h 1) g v) (match fst1 (p_owes (h 1) (tn g) v) 0 201 with | some q => daysR (h 1) q | none => daysR (h 1) 201)) := by
  refine ⟨rfl, ?_⟩
  refine g_aload_n dX3_owes_0 rfl ?_
  refine g_getR dX3_owes_1 fl_X3_12 rfl rfl ?_
  refine g_iload_n dX3_owes_4 rfl ?_
  refine g_callV1i (c_X0_isGuest inn1) mi_X0_isGuest mv_X0_isGuest ml_X3_101 dX3_owes_5 rfl rfl (by decide) (Nat.le_of_ble_eq_true rfl) (Nat.le_of_ble_eq_true rfl) ?_
  refine g_if_eq 21 dX3_owes_8 (by decide) (fun c8 => ?_) (fun c8 => ?_)
  · refine g_aload_n dX3_owes_21 rfl ?_
    refine g_ldc dX3_owes_22 lc_X3_52 ?_
    refine g_callV1i (c_X3_found 0 (by decide) (by decide)) mi_X3_found mv_X3_found ml_X3_53 dX3_owes_24 rfl rfl (by decide) (Nat.le_of_ble_eq_true rfl) (Nat.le_of_ble_eq_true rfl) ?_
    exact g_ireturn dX3_owes_27 (by simp_all [f_owes, oV, fvl_0, fvl_1, fvl_2, fvl_3, fvl_4, fvl_5, fvl_6, bI_0, setg_s]) (hQ_0 _ _ (by simp_all [f_owes, bI_0]))
  · refine g_iload_n dX3_owes_11 rfl ?_
    refine g_iconst dX3_owes_12 ic_0 ?_
    refine g_ldc dX3_owes_13 lc_X3_142 ?_
    refine g_callS3i (c_X3_within) mi_X3_within ms_X3_within ml_X3_48 dX3_owes_15 (by decide) (Nat.le_of_ble_eq_true rfl) (Nat.le_of_ble_eq_true rfl) ?_
    refine g_if_ne 28 dX3_owes_18 (by decide) (fun c18 => ?_) (fun c18 => ?_)
    · obtain ⟨e, le, he, te, rfl⟩ := isG_of2 hI (nb0 c8)
      refine g_aload_n dX3_owes_28 rfl ?_
      refine g_getR dX3_owes_29 fl_X3_19 rfl rfl ?_
      refine g_aload_n dX3_owes_32 rfl ?_
      refine g_getR dX3_owes_33 fl_X3_12 rfl rfl ?_
      refine g_callV1v (c_X0_become inn3 inn1 (by decide) (by decide)) mi_X0_become mv_X0_become ml_X3_169 dX3_owes_36 rfl rfl (by decide) (Nat.le_of_ble_eq_true rfl) (Nat.le_of_ble_eq_true rfl) ?_
      refine g_iconst dX3_owes_39 ic_0 ?_
      refine g_istore_n dX3_owes_40 (by decide) rfl ?_
      have ef : f_owes (h 1) (nI e) v = oF (h 1) (fst1 (p_owes (h 1) e v) 0 201) := by simp_all [f_owes, bI_0]
      rw [te, ← hQ_x h _ _ ef, ef]
      exact l_X3_owes hI he 0 (by decide) rfl
    · refine g_aload_n dX3_owes_21 rfl ?_
      refine g_ldc dX3_owes_22 lc_X3_52 ?_
      refine g_callV1i (c_X3_found 0 (by decide) (by decide)) mi_X3_found mv_X3_found ml_X3_53 dX3_owes_24 rfl rfl (by decide) (Nat.le_of_ble_eq_true rfl) (Nat.le_of_ble_eq_true rfl) ?_
      exact g_ireturn dX3_owes_27 (by simp_all [f_owes, oV, fvl_0, fvl_1, fvl_2, fvl_3, fvl_4, fvl_5, fvl_6, bI_0, setg_s]) (hQ_0 _ _ (by simp_all [f_owes, bI_0]))

set_option maxRecDepth 100000 in
set_option maxHeartbeats 4000000 in
theorem c_X3_part {X : Sc} {h : Hp} (hI : In (h 1)) {a b : Int32} : Ct X yX3_part cX3_part 4 (some .int) 5 [.ref 0, .int a, .int b] h (some (.int (oV (f_part (h 1) a b)))) (hQ h (f_part (h 1) a b) (match fst1 (p_part (h 1) (tn a) (tn b)) 0 201 with | some q => daysR (h 1) q | none => daysR (h 1) 201)) := by
  refine ⟨rfl, ?_⟩
  refine g_aload_n dX3_part_0 rfl ?_
  refine g_getR dX3_part_1 fl_X3_12 rfl rfl ?_
  refine g_iload_n dX3_part_4 rfl ?_
  refine g_callV1i (c_X0_isGuest inn1) mi_X0_isGuest mv_X0_isGuest ml_X3_101 dX3_part_5 rfl rfl (by decide) (Nat.le_of_ble_eq_true rfl) (Nat.le_of_ble_eq_true rfl) ?_
  refine g_if_eq 27 dX3_part_8 (by decide) (fun c8 => ?_) (fun c8 => ?_)
  · refine g_aload_n dX3_part_27 rfl ?_
    refine g_ldc dX3_part_28 lc_X3_52 ?_
    refine g_callV1i (c_X3_found 0 (by decide) (by decide)) mi_X3_found mv_X3_found ml_X3_53 dX3_part_30 rfl rfl (by decide) (Nat.le_of_ble_eq_true rfl) (Nat.le_of_ble_eq_true rfl) ?_
    exact g_ireturn dX3_part_33 (by simp_all [f_part, oV, fvl_0, fvl_1, fvl_2, fvl_3, fvl_4, fvl_5, fvl_6, bI_0, setg_s]) (hQ_0 _ _ (by simp_all [f_part, bI_0]))
  · refine g_aload_n dX3_part_11 rfl ?_
    refine g_getR dX3_part_12 fl_X3_12 rfl rfl ?_
    refine g_iload_n dX3_part_15 rfl ?_
    refine g_callV1i (c_X0_isGuest inn1) mi_X0_isGuest mv_X0_isGuest ml_X3_101 dX3_part_16 rfl rfl (by decide) (Nat.le_of_ble_eq_true rfl) (Nat.le_of_ble_eq_true rfl) ?_
    refine g_if_eq 27 dX3_part_19 (by decide) (fun c19 => ?_) (fun c19 => ?_)
    · refine g_aload_n dX3_part_27 rfl ?_
      refine g_ldc dX3_part_28 lc_X3_52 ?_
      refine g_callV1i (c_X3_found 0 (by decide) (by decide)) mi_X3_found mv_X3_found ml_X3_53 dX3_part_30 rfl rfl (by decide) (Nat.le_of_ble_eq_true rfl) (Nat.le_of_ble_eq_true rfl) ?_
      exact g_ireturn dX3_part_33 (by simp_all [f_part, oV, fvl_0, fvl_1, fvl_2, fvl_3, fvl_4, fvl_5, fvl_6, bI_0, setg_s]) (hQ_0 _ _ (by simp_all [f_part, bI_0]))
    · refine g_iload_n dX3_part_22 rfl ?_
      refine g_iload_n dX3_part_23 rfl ?_
      refine g_icmp_ne 34 dX3_part_24 (by decide) (fun c24 => ?_) (fun c24 => ?_)
      · obtain ⟨e, le, he, te, rfl⟩ := isG_of2 hI (nb0 c8)
        obtain ⟨j, lj, hj, tj, rfl⟩ := isG_of2 hI (nb0 c19)
        refine g_aload_n dX3_part_34 rfl ?_
        refine g_getR dX3_part_35 fl_X3_19 rfl rfl ?_
        refine g_aload_n dX3_part_38 rfl ?_
        refine g_getR dX3_part_39 fl_X3_12 rfl rfl ?_
        refine g_callV1v (c_X0_become inn3 inn1 (by decide) (by decide)) mi_X0_become mv_X0_become ml_X3_169 dX3_part_42 rfl rfl (by decide) (Nat.le_of_ble_eq_true rfl) (Nat.le_of_ble_eq_true rfl) ?_
        refine g_iconst dX3_part_45 ic_0 ?_
        refine g_istore_n dX3_part_46 (by decide) rfl ?_
        have ef : f_part (h 1) (nI e) (nI j) = oF (h 1) (fst1 (p_part (h 1) e j) 0 201) := by simp_all [f_part, bI_0]
        rw [te, tj, ← hQ_x h _ _ ef, ef]
        exact l_X3_part hI he hj 0 (by decide) rfl
      · refine g_aload_n dX3_part_27 rfl ?_
        refine g_ldc dX3_part_28 lc_X3_52 ?_
        refine g_callV1i (c_X3_found 0 (by decide) (by decide)) mi_X3_found mv_X3_found ml_X3_53 dX3_part_30 rfl rfl (by decide) (Nat.le_of_ble_eq_true rfl) (Nat.le_of_ble_eq_true rfl) ?_
        exact g_ireturn dX3_part_33 (by simp_all [f_part, oV, fvl_0, fvl_1, fvl_2, fvl_3, fvl_4, fvl_5, fvl_6, bI_0, setg_s]) (hQ_0 _ _ (by simp_all [f_part, bI_0]))

def T8 (t0 : Rw) (F : Nat → Rw) : Nat → Rw
  | 0 => t0
  | k + 1 => F k
theorem meal_eq {m : Rw} (h : In m) {i k : Nat} (hi : i < 6) : 10 * nI (tn (m (4 + i)) / 10) + nI k = nI (10 * (tn (m (4 + i)) / 10) + k) := by
  rw [show (10 : Int32) = nI 10 from rfl, pk_mul, nI_add]
set_option maxRecDepth 100000 in
set_option maxHeartbeats 4000000 in
theorem l_X3_dishFor {X : Sc} {h : Hp} (hI : In (h 1)) {i : Nat} (hi : i < 6) {n : Nat} (hn : n ≤ 60) : ∀ k, k ≤ 8 → Go X RX3 cX3_dishFor 8 5 47 [.ref 0, .int (nI i), .int (nI n), .int (nI (tn (h 1 (4 + i)) / 10)), .int (bst (fun k => bilA (daysR (rowL (h 1) i k) n)) k).1, .int (bst (fun k => bilA (daysR (rowL (h 1) i k) n)) k).2, .int (nI k), .null] [] (setg h 3 (T8 (h 3) (fun k => daysR (rowL (h 1) i k) n) k)) (some (.int (bst (fun k => bilA (daysR (rowL (h 1) i k) n)) 8).1)) (setg h 3 (daysR (rowL (h 1) i 7) n)) := by
  refine loop_up (8) ?_ ?_
  · refine g_iload dX3_dishFor_47 rfl ?_
    refine g_bipush dX3_dishFor_49 bp_8 ?_
    refine g_icmp_ge 114 dX3_dishFor_51 (by decide) (fun c51 => ?_) (fun c51 => ?_)
    · refine g_iload dX3_dishFor_114 rfl ?_
      exact g_ireturn dX3_dishFor_116 rfl rfl
    · exact (lp_yes ((rfl : (8 : Int32) = nI 8)) (by decide) c51).elim
  · intro k hk ih
    refine g_iload dX3_dishFor_47 rfl ?_
    refine g_bipush dX3_dishFor_49 bp_8 ?_
    refine g_icmp_ge 114 dX3_dishFor_51 (by decide) (fun c51 => ?_) (fun c51 => ?_)
    · exact (lp_no ((rfl : (8 : Int32) = nI 8)) (by decide) hk c51).elim
    · refine g_aload_n dX3_dishFor_54 rfl ?_
      refine g_getR dX3_dishFor_55 fl_X3_19 rfl rfl ?_
      refine g_aload_n dX3_dishFor_58 rfl ?_
      refine g_getR dX3_dishFor_59 fl_X3_12 rfl rfl ?_
      refine g_callV1v (c_X0_become inn3 inn1 (by decide) (by decide)) mi_X0_become mv_X0_become ml_X3_169 dX3_dishFor_62 rfl rfl (by decide) (Nat.le_of_ble_eq_true rfl) (Nat.le_of_ble_eq_true rfl) ?_
      refine g_h (h2 := setg h 3 (h 1)) (by rw [setg_2, setg_n _ _ (by decide)]) ?_
      refine g_aload_n dX3_dishFor_65 rfl ?_
      refine g_getR dX3_dishFor_66 fl_X3_19 rfl rfl ?_
      refine g_iload_n dX3_dishFor_69 rfl ?_
      refine g_iload_n dX3_dishFor_70 rfl ?_
      refine g_iload dX3_dishFor_71 rfl ?_
      refine g_callV3v (c_X0_planMeal inn3 hi) mi_X0_planMeal mv_X0_planMeal ml_X3_60 dX3_dishFor_73 rfl rfl (by decide) (Nat.le_of_ble_eq_true rfl) (Nat.le_of_ble_eq_true rfl) ?_
      refine g_h (h2 := setg h 3 (rowL (h 1) i k)) (by rw [setg_2, setg_s]; rw [meal_eq hI hi]; rfl) ?_
      refine g_aload_n dX3_dishFor_76 rfl ?_
      refine g_getR dX3_dishFor_77 fl_X3_19 rfl rfl ?_
      refine g_iload_n dX3_dishFor_80 rfl ?_
      refine g_callV1v (c_X0_passDays inn3 (by rw [setg_s]; exact hI.rowL hi (by omega)) (by omega)) mi_X0_passDays mv_X0_passDays ml_X3_143 dX3_dishFor_81 rfl rfl (by decide) (Nat.le_of_ble_eq_true rfl) (Nat.le_of_ble_eq_true rfl) ?_
      refine g_h (h2 := setg h 3 (daysR (rowL (h 1) i k) n)) (by rw [setg_2, setg_s]) ?_
      refine g_aload_n dX3_dishFor_84 rfl ?_
      refine g_getR dX3_dishFor_85 fl_X3_19 rfl rfl ?_
      refine g_callV0i (c_X0_billSum inn3 (by rw [setg_s]; exact (hI.rowL hi (by omega)).days _)) mi_X0_billSum mv_X0_billSum ml_X3_147 dX3_dishFor_88 rfl rfl (by decide) (Nat.le_of_ble_eq_true rfl) (Nat.le_of_ble_eq_true rfl) ?_
      refine g_st (st2 := [.int (bilA (daysR (rowL (h 1) i k) n))]) (by rw [setg_s]; rfl) ?_
      refine g_istore dX3_dishFor_91 (by decide) rfl ?_
      refine g_iload dX3_dishFor_93 rfl ?_
      refine g_iload dX3_dishFor_95 rfl ?_
      refine g_icmp_ge 108 dX3_dishFor_97 (by decide) (fun c97 => ?_) (fun c97 => ?_)
      · refine g_iinc dX3_dishFor_108 rfl (ii_n _) (by decide) rfl ?_
        refine g_goto 47 dX3_dishFor_111 (by decide) ?_
        refine g_mask [true, true, true, true, true, true, true, false] ?_
        exact g_lv (by first | (rw [bst, if_pos (Int32.not_le.mp c97)]; rfl) | (rw [bst, if_neg (Int32.not_lt.mpr c97)]; rfl)) ih
      · refine g_iload dX3_dishFor_100 rfl ?_
        refine g_istore dX3_dishFor_102 (by decide) rfl ?_
        refine g_iload dX3_dishFor_104 rfl ?_
        refine g_istore dX3_dishFor_106 (by decide) rfl ?_
        refine g_iinc dX3_dishFor_108 rfl (ii_n _) (by decide) rfl ?_
        refine g_goto 47 dX3_dishFor_111 (by decide) ?_
        refine g_mask [true, true, true, true, true, true, true, false] ?_
        exact g_lv (by first | (rw [bst, if_pos (Int32.not_le.mp c97)]; rfl) | (rw [bst, if_neg (Int32.not_lt.mpr c97)]; rfl)) ih

set_option maxRecDepth 100000 in
set_option maxHeartbeats 4000000 in
theorem l_X3_kindFor {X : Sc} {h : Hp} (hI : In (h 1)) {d : Nat} (hd : d < 8) {n : Nat} (hn : n ≤ 60) : ∀ k, k ≤ 7 → Go X RX3 cX3_kindFor 7 5 37 [.ref 0, .int (nI d), .int (nI n), .int (bst (fun k => bilA (daysR (pD (h 1) d 0 (nI k)) n)) k).1, .int (bst (fun k => bilA (daysR (pD (h 1) d 0 (nI k)) n)) k).2, .int (nI k), .null] [] (setg h 3 (T8 (h 3) (fun k => daysR (pD (h 1) d 0 (nI k)) n) k)) (some (.int (bst (fun k => bilA (daysR (pD (h 1) d 0 (nI k)) n)) 7).1)) (setg h 3 (daysR (pD (h 1) d 0 (nI 6)) n)) := by
  refine loop_up (7) ?_ ?_
  · refine g_iload dX3_kindFor_37 rfl ?_
    refine g_bipush dX3_kindFor_39 bp_7 ?_
    refine g_icmp_ge 103 dX3_kindFor_41 (by decide) (fun c41 => ?_) (fun c41 => ?_)
    · refine g_iload_n dX3_kindFor_103 rfl ?_
      exact g_ireturn dX3_kindFor_104 rfl rfl
    · exact (lp_yes ((rfl : (7 : Int32) = nI 7)) (by decide) c41).elim
  · intro k hk ih
    refine g_iload dX3_kindFor_37 rfl ?_
    refine g_bipush dX3_kindFor_39 bp_7 ?_
    refine g_icmp_ge 103 dX3_kindFor_41 (by decide) (fun c41 => ?_) (fun c41 => ?_)
    · exact (lp_no ((rfl : (7 : Int32) = nI 7)) (by decide) hk c41).elim
    · refine g_aload_n dX3_kindFor_44 rfl ?_
      refine g_getR dX3_kindFor_45 fl_X3_19 rfl rfl ?_
      refine g_aload_n dX3_kindFor_48 rfl ?_
      refine g_getR dX3_kindFor_49 fl_X3_12 rfl rfl ?_
      refine g_callV1v (c_X0_become inn3 inn1 (by decide) (by decide)) mi_X0_become mv_X0_become ml_X3_169 dX3_kindFor_52 rfl rfl (by decide) (Nat.le_of_ble_eq_true rfl) (Nat.le_of_ble_eq_true rfl) ?_
      refine g_h (h2 := setg h 3 (h 1)) (by rw [setg_2, setg_n _ _ (by decide)]) ?_
      refine g_aload_n dX3_kindFor_55 rfl ?_
      refine g_getR dX3_kindFor_56 fl_X3_19 rfl rfl ?_
      refine g_iload_n dX3_kindFor_59 rfl ?_
      refine g_iconst dX3_kindFor_60 ic_0 ?_
      refine g_iload dX3_kindFor_61 rfl ?_
      refine g_callV3v (c_X0_putDishFact (w := 0) inn3 hd (by decide)) mi_X0_putDishFact mv_X0_putDishFact ml_X3_98 dX3_kindFor_63 rfl rfl (by decide) (Nat.le_of_ble_eq_true rfl) (Nat.le_of_ble_eq_true rfl) ?_
      refine g_h (h2 := setg h 3 (pD (h 1) d 0 (nI k))) (by rw [setg_2, setg_s]) ?_
      refine g_aload_n dX3_kindFor_66 rfl ?_
      refine g_getR dX3_kindFor_67 fl_X3_19 rfl rfl ?_
      refine g_iload_n dX3_kindFor_70 rfl ?_
      refine g_callV1v (c_X0_passDays inn3 (by rw [setg_s]; exact hI.pD hd (w := 0) (by decide) (show k ≤ 6 by omega)) (by omega)) mi_X0_passDays mv_X0_passDays ml_X3_143 dX3_kindFor_71 rfl rfl (by decide) (Nat.le_of_ble_eq_true rfl) (Nat.le_of_ble_eq_true rfl) ?_
      refine g_h (h2 := setg h 3 (daysR (pD (h 1) d 0 (nI k)) n)) (by rw [setg_2, setg_s]) ?_
      refine g_aload_n dX3_kindFor_74 rfl ?_
      refine g_getR dX3_kindFor_75 fl_X3_19 rfl rfl ?_
      refine g_callV0i (c_X0_billSum inn3 (by rw [setg_s]; exact (hI.pD hd (w := 0) (by decide) (show k ≤ 6 by omega)).days _)) mi_X0_billSum mv_X0_billSum ml_X3_147 dX3_kindFor_78 rfl rfl (by decide) (Nat.le_of_ble_eq_true rfl) (Nat.le_of_ble_eq_true rfl) ?_
      refine g_st (st2 := [.int (bilA (daysR (pD (h 1) d 0 (nI k)) n))]) (by rw [setg_s]; rfl) ?_
      refine g_istore dX3_kindFor_81 (by decide) rfl ?_
      refine g_iload dX3_kindFor_83 rfl ?_
      refine g_iload dX3_kindFor_85 rfl ?_
      refine g_icmp_ge 97 dX3_kindFor_87 (by decide) (fun c87 => ?_) (fun c87 => ?_)
      · refine g_iinc dX3_kindFor_97 rfl (ii_n _) (by decide) rfl ?_
        refine g_goto 37 dX3_kindFor_100 (by decide) ?_
        refine g_mask [true, true, true, true, true, true, false] ?_
        exact g_lv (by first | (rw [bst, if_pos (Int32.not_le.mp c87)]; rfl) | (rw [bst, if_neg (Int32.not_lt.mpr c87)]; rfl)) ih
      · refine g_iload dX3_kindFor_90 rfl ?_
        refine g_istore dX3_kindFor_92 (by decide) rfl ?_
        refine g_iload dX3_kindFor_94 rfl ?_
        refine g_istore_n dX3_kindFor_96 (by decide) rfl ?_
        refine g_iinc dX3_kindFor_97 rfl (ii_n _) (by decide) rfl ?_
        refine g_goto 37 dX3_kindFor_100 (by decide) ?_
        refine g_mask [true, true, true, true, true, true, false] ?_
        exact g_lv (by first | (rw [bst, if_pos (Int32.not_le.mp c87)]; rfl) | (rw [bst, if_neg (Int32.not_lt.mpr c87)]; rfl)) ih

set_option maxRecDepth 100000 in
set_option maxHeartbeats 4000000 in
theorem c_X3_dishFor {X : Sc} {h : Hp} (hI : In (h 1)) {i n : Int32} : Ct X yX3_dishFor cX3_dishFor 8 (some .int) 5 [.ref 0, .int i, .int n] h (some (.int (oV (f_dishFor (h 1) i n)))) (hQ h (f_dishFor (h 1) i n) (daysR (rowL (h 1) (tn i) 7) (tn n))) := by
  refine ⟨rfl, ?_⟩
  refine g_iload_n dX3_dishFor_0 rfl ?_
  refine g_callS1i (c_X3_isPlace) mi_X3_isPlace ms_X3_isPlace ml_X3_44 dX3_dishFor_1 (by decide) (Nat.le_of_ble_eq_true rfl) (Nat.le_of_ble_eq_true rfl) ?_
  refine g_if_eq 17 dX3_dishFor_4 (by decide) (fun c4 => ?_) (fun c4 => ?_)
  · refine g_aload_n dX3_dishFor_17 rfl ?_
    refine g_ldc dX3_dishFor_18 lc_X3_52 ?_
    refine g_callV1i (c_X3_found 0 (by decide) (by decide)) mi_X3_found mv_X3_found ml_X3_53 dX3_dishFor_20 rfl rfl (by decide) (Nat.le_of_ble_eq_true rfl) (Nat.le_of_ble_eq_true rfl) ?_
    exact g_ireturn dX3_dishFor_23 (by simp_all [f_dishFor, oV, fvl_0, fvl_1, fvl_2, fvl_3, fvl_4, fvl_5, fvl_6, bI_0, setg_s]) (hQ_0 _ _ (by simp_all [f_dishFor, bI_0]))
  · refine g_iload_n dX3_dishFor_7 rfl ?_
    refine g_iconst dX3_dishFor_8 ic_0 ?_
    refine g_bipush dX3_dishFor_9 bp_60 ?_
    refine g_callS3i (c_X3_within) mi_X3_within ms_X3_within ml_X3_48 dX3_dishFor_11 (by decide) (Nat.le_of_ble_eq_true rfl) (Nat.le_of_ble_eq_true rfl) ?_
    refine g_if_ne 24 dX3_dishFor_14 (by decide) (fun c14 => ?_) (fun c14 => ?_)
    · obtain ⟨j, hj, tj, rfl⟩ := inB_of 5 (by decide) (nb0 c4)
      obtain ⟨e, he, te, rfl⟩ := inB_of 60 (by decide) (nb0 c14)
      refine g_aload_n dX3_dishFor_24 rfl ?_
      refine g_getR dX3_dishFor_25 fl_X3_12 rfl rfl ?_
      refine g_getR dX3_dishFor_28 fl_X3_57 rfl rfl ?_
      refine g_iload_n dX3_dishFor_31 rfl ?_
      refine g_iald j dX3_dishFor_32 rfl rfl (by omega) ?_
      refine g_callS1i (c_X0_guestOfMeal) mi_X0_guestOfMeal ms_X0_guestOfMeal ml_X3_177 dX3_dishFor_33 (by decide) (Nat.le_of_ble_eq_true rfl) (Nat.le_of_ble_eq_true rfl) ?_
      obtain ⟨q, q6, q8, eq⟩ := hI.meal (i := j) (by omega)
      have et : tn (h 1 (4 + j)) = q := by rw [eq]; exact nI_clamp (by omega)
      refine g_st (st2 := [.int (nI (tn (h 1 (4 + j)) / 10))]) (by rw [et, eq, div10 (by omega)]) ?_
      refine g_istore_n dX3_dishFor_36 (by decide) rfl ?_
      refine g_iconst dX3_dishFor_37 ic_0 ?_
      refine g_istore dX3_dishFor_38 (by decide) rfl ?_
      refine g_ldc dX3_dishFor_40 lc_X3_180 ?_
      refine g_istore dX3_dishFor_42 (by decide) rfl ?_
      refine g_iconst dX3_dishFor_44 ic_0 ?_
      refine g_istore dX3_dishFor_45 (by decide) rfl ?_
      have ef : f_dishFor (h 1) (nI j) (nI e) = .inr ((bst (fun k => bilA (daysR (rowL (h 1) j k) e)) 8).1, h 1) := by simp_all [f_dishFor, bI_0]
      rw [tj, te, ← hQ_v h _ ef, ef]
      simp only [oV]
      exact g_h (setg_id h 3).symm (l_X3_dishFor hI (i := j) (by omega) he 0 (by decide))
    · refine g_aload_n dX3_dishFor_17 rfl ?_
      refine g_ldc dX3_dishFor_18 lc_X3_52 ?_
      refine g_callV1i (c_X3_found 0 (by decide) (by decide)) mi_X3_found mv_X3_found ml_X3_53 dX3_dishFor_20 rfl rfl (by decide) (Nat.le_of_ble_eq_true rfl) (Nat.le_of_ble_eq_true rfl) ?_
      exact g_ireturn dX3_dishFor_23 (by simp_all [f_dishFor, oV, fvl_0, fvl_1, fvl_2, fvl_3, fvl_4, fvl_5, fvl_6, bI_0, setg_s]) (hQ_0 _ _ (by simp_all [f_dishFor, bI_0]))

set_option maxRecDepth 100000 in
set_option maxHeartbeats 4000000 in
theorem c_X3_kindFor {X : Sc} {h : Hp} (hI : In (h 1)) {d n : Int32} : Ct X yX3_kindFor cX3_kindFor 7 (some .int) 5 [.ref 0, .int d, .int n] h (some (.int (oV (f_kindFor (h 1) d n)))) (hQ h (f_kindFor (h 1) d n) (daysR (pD (h 1) (tn d) 0 (nI 6)) (tn n))) := by
  refine ⟨rfl, ?_⟩
  refine g_aload_n dX3_kindFor_0 rfl ?_
  refine g_getR dX3_kindFor_1 fl_X3_12 rfl rfl ?_
  refine g_iload_n dX3_kindFor_4 rfl ?_
  refine g_callV1i (c_X0_isDish inn1) mi_X0_isDish mv_X0_isDish ml_X3_88 dX3_kindFor_5 rfl rfl (by decide) (Nat.le_of_ble_eq_true rfl) (Nat.le_of_ble_eq_true rfl) ?_
  refine g_if_eq 21 dX3_kindFor_8 (by decide) (fun c8 => ?_) (fun c8 => ?_)
  · refine g_aload_n dX3_kindFor_21 rfl ?_
    refine g_ldc dX3_kindFor_22 lc_X3_52 ?_
    refine g_callV1i (c_X3_found 0 (by decide) (by decide)) mi_X3_found mv_X3_found ml_X3_53 dX3_kindFor_24 rfl rfl (by decide) (Nat.le_of_ble_eq_true rfl) (Nat.le_of_ble_eq_true rfl) ?_
    exact g_ireturn dX3_kindFor_27 (by simp_all [f_kindFor, oV, fvl_0, fvl_1, fvl_2, fvl_3, fvl_4, fvl_5, fvl_6, bI_0, setg_s]) (hQ_0 _ _ (by simp_all [f_kindFor, bI_0]))
  · refine g_iload_n dX3_kindFor_11 rfl ?_
    refine g_iconst dX3_kindFor_12 ic_0 ?_
    refine g_bipush dX3_kindFor_13 bp_60 ?_
    refine g_callS3i (c_X3_within) mi_X3_within ms_X3_within ml_X3_48 dX3_kindFor_15 (by decide) (Nat.le_of_ble_eq_true rfl) (Nat.le_of_ble_eq_true rfl) ?_
    refine g_if_ne 28 dX3_kindFor_18 (by decide) (fun c18 => ?_) (fun c18 => ?_)
    · obtain ⟨j, lj, hj, tj, rfl⟩ := isD_of2 hI (nb0 c8)
      obtain ⟨e, he, te, rfl⟩ := inB_of 60 (by decide) (nb0 c18)
      refine g_iconst dX3_kindFor_28 ic_0 ?_
      refine g_istore_n dX3_kindFor_29 (by decide) rfl ?_
      refine g_ldc dX3_kindFor_30 lc_X3_180 ?_
      refine g_istore dX3_kindFor_32 (by decide) rfl ?_
      refine g_iconst dX3_kindFor_34 ic_0 ?_
      refine g_istore dX3_kindFor_35 (by decide) rfl ?_
      have ef : f_kindFor (h 1) (nI j) (nI e) = .inr ((bst (fun k => bilA (daysR (pD (h 1) j 0 (nI k)) e)) 7).1, h 1) := by simp_all [f_kindFor, bI_0]
      rw [tj, te, ← hQ_v h _ ef, ef]
      simp only [oV]
      exact g_h (setg_id h 3).symm (l_X3_kindFor hI hj he 0 (by decide))
    · refine g_aload_n dX3_kindFor_21 rfl ?_
      refine g_ldc dX3_kindFor_22 lc_X3_52 ?_
      refine g_callV1i (c_X3_found 0 (by decide) (by decide)) mi_X3_found mv_X3_found ml_X3_53 dX3_kindFor_24 rfl rfl (by decide) (Nat.le_of_ble_eq_true rfl) (Nat.le_of_ble_eq_true rfl) ?_
      exact g_ireturn dX3_kindFor_27 (by simp_all [f_kindFor, oV, fvl_0, fvl_1, fvl_2, fvl_3, fvl_4, fvl_5, fvl_6, bI_0, setg_s]) (hQ_0 _ _ (by simp_all [f_kindFor, bI_0]))

set_option maxRecDepth 100000 in
set_option maxHeartbeats 4000000 in
theorem l_X3_bentFor {X : Sc} {h : Hp} (hI : In (h 1)) {e n : Nat} (he : e < 6) (hn : n ≤ 60) {t : Int32} : ∀ k, k ≤ 100 → fst1 (p_bent (h 1) e n t) 0 100 = fst1 (p_bent (h 1) e n t) k (100 - k) → Go X RX3 cX3_bentFor 5 5 38 [.ref 0, .int (nI e), .int t, .int (nI n), .int (nI k)] [] (setg h 3 (T8 (h 3) (fun b => daysR (pG (h 1) e 0 (nI b)) n) k)) (some (.int (oV (oF (h 1) (fst1 (p_bent (h 1) e n t) 0 100))))) (oX h (match fst1 (p_bent (h 1) e n t) 0 100 with | some q => (fun b => daysR (pG (h 1) e 0 (nI b)) n) q | none => T8 (h 3) (fun b => daysR (pG (h 1) e 0 (nI b)) n) 100) (fst1 (p_bent (h 1) e n t) 0 100)) := by
  refine loop_up (100) ?_ ?_
  · intro hy
    refine g_iload dX3_bentFor_38 rfl ?_
    refine g_bipush dX3_bentFor_40 bp_100 ?_
    refine g_icmp_ge 97 dX3_bentFor_42 (by decide) (fun c42 => ?_) (fun c42 => ?_)
    · refine g_aload_n dX3_bentFor_97 rfl ?_
      refine g_ldc dX3_bentFor_98 lc_X3_176 ?_
      refine g_callV1i (c_X3_found 3 (by decide) (by decide)) mi_X3_found mv_X3_found ml_X3_53 dX3_bentFor_100 rfl rfl (by decide) (Nat.le_of_ble_eq_true rfl) (Nat.le_of_ble_eq_true rfl) ?_
      exact g_ireturn dX3_bentFor_103 (by rw [hy, fst_0]; rfl) (by rw [hy, fst_0]; rfl)
    · exact (lp_yes ((rfl : (100 : Int32) = nI 100)) (by decide) c42).elim
  · intro k hk ih hy
    refine g_iload dX3_bentFor_38 rfl ?_
    refine g_bipush dX3_bentFor_40 bp_100 ?_
    refine g_icmp_ge 97 dX3_bentFor_42 (by decide) (fun c42 => ?_) (fun c42 => ?_)
    · exact (lp_no ((rfl : (100 : Int32) = nI 100)) (by decide) hk c42).elim
    · refine g_aload_n dX3_bentFor_45 rfl ?_
      refine g_getR dX3_bentFor_46 fl_X3_19 rfl rfl ?_
      refine g_aload_n dX3_bentFor_49 rfl ?_
      refine g_getR dX3_bentFor_50 fl_X3_12 rfl rfl ?_
      refine g_callV1v (c_X0_become inn3 inn1 (by decide) (by decide)) mi_X0_become mv_X0_become ml_X3_169 dX3_bentFor_53 rfl rfl (by decide) (Nat.le_of_ble_eq_true rfl) (Nat.le_of_ble_eq_true rfl) ?_
      refine g_h (h2 := setg h 3 (h 1)) (by rw [setg_2, setg_n _ _ (by decide)]) ?_
      refine g_aload_n dX3_bentFor_56 rfl ?_
      refine g_getR dX3_bentFor_57 fl_X3_19 rfl rfl ?_
      refine g_iload_n dX3_bentFor_60 rfl ?_
      refine g_iconst dX3_bentFor_61 ic_0 ?_
      refine g_iload dX3_bentFor_62 rfl ?_
      refine g_callV3v (c_X0_putGuestFact (w := 0) inn3 he (by decide)) mi_X0_putGuestFact mv_X0_putGuestFact ml_X3_113 dX3_bentFor_64 rfl rfl (by decide) (Nat.le_of_ble_eq_true rfl) (Nat.le_of_ble_eq_true rfl) ?_
      refine g_h (h2 := setg h 3 (pG (h 1) e 0 (nI k))) (by rw [setg_2, setg_s]) ?_
      refine g_aload_n dX3_bentFor_67 rfl ?_
      refine g_getR dX3_bentFor_68 fl_X3_19 rfl rfl ?_
      refine g_iload_n dX3_bentFor_71 rfl ?_
      refine g_callV1v (c_X0_passDays inn3 (by rw [setg_s]; exact hI.pG he (w := 0) (by decide) (show k ≤ 99 by omega)) (by omega)) mi_X0_passDays mv_X0_passDays ml_X3_143 dX3_bentFor_72 rfl rfl (by decide) (Nat.le_of_ble_eq_true rfl) (Nat.le_of_ble_eq_true rfl) ?_
      refine g_h (h2 := setg h 3 (daysR (pG (h 1) e 0 (nI k)) n)) (by rw [setg_2, setg_s]) ?_
      refine g_aload_n dX3_bentFor_75 rfl ?_
      refine g_getR dX3_bentFor_76 fl_X3_19 rfl rfl ?_
      refine g_iload_n dX3_bentFor_79 rfl ?_
      refine g_iconst dX3_bentFor_80 ic_1 ?_
      refine g_callV2i (c_X0_guestFact (w := 1) inn3 he (by decide)) mi_X0_guestFact mv_X0_guestFact ml_X3_107 dX3_bentFor_81 rfl rfl (by decide) (Nat.le_of_ble_eq_true rfl) (Nat.le_of_ble_eq_true rfl) ?_
      refine g_iload_n dX3_bentFor_84 rfl ?_
      refine g_icmp_ne 91 dX3_bentFor_85 (by decide) (fun c85 => ?_) (fun c85 => ?_)
      · refine g_iinc dX3_bentFor_91 rfl (ii_n _) (by decide) rfl ?_
        refine g_goto 38 dX3_bentFor_94 (by decide) ?_
        exact ih (by rw [hy, fst_n (by simp_all [p_bent, setg_s]) (by omega)])
      · refine g_iload dX3_bentFor_88 rfl ?_
        exact g_ireturn dX3_bentFor_90 (by rw [hy, fst_y (by simp_all [p_bent, setg_s]) (by omega)]; rfl) (by rw [hy, fst_y (by simp_all [p_bent, setg_s]) (by omega)]; rfl)

set_option maxRecDepth 100000 in
set_option maxHeartbeats 4000000 in
theorem c_X3_bentFor {X : Sc} {h : Hp} (hI : In (h 1)) {g t n : Int32} : Ct X yX3_bentFor cX3_bentFor 5 (some .int) 5 [.ref 0, .int g, .int t, .int n] h (some (.int (oV (f_bentFor (h 1) g t n)))) (hQ h (f_bentFor (h 1) g t n) (match fst1 (p_bent (h 1) (tn g) (tn n) t) 0 100 with | some q => (fun b => daysR (pG (h 1) (tn g) 0 (nI b)) (tn n)) q | none => T8 (h 3) (fun b => daysR (pG (h 1) (tn g) 0 (nI b)) (tn n)) 100)) := by
  refine ⟨rfl, ?_⟩
  refine g_aload_n dX3_bentFor_0 rfl ?_
  refine g_getR dX3_bentFor_1 fl_X3_12 rfl rfl ?_
  refine g_iload_n dX3_bentFor_4 rfl ?_
  refine g_callV1i (c_X0_isGuest inn1) mi_X0_isGuest mv_X0_isGuest ml_X3_101 dX3_bentFor_5 rfl rfl (by decide) (Nat.le_of_ble_eq_true rfl) (Nat.le_of_ble_eq_true rfl) ?_
  refine g_if_eq 28 dX3_bentFor_8 (by decide) (fun c8 => ?_) (fun c8 => ?_)
  · refine g_aload_n dX3_bentFor_28 rfl ?_
    refine g_ldc dX3_bentFor_29 lc_X3_52 ?_
    refine g_callV1i (c_X3_found 0 (by decide) (by decide)) mi_X3_found mv_X3_found ml_X3_53 dX3_bentFor_31 rfl rfl (by decide) (Nat.le_of_ble_eq_true rfl) (Nat.le_of_ble_eq_true rfl) ?_
    exact g_ireturn dX3_bentFor_34 (by simp_all [f_bentFor, oV, fvl_0, fvl_1, fvl_2, fvl_3, fvl_4, fvl_5, fvl_6, bI_0, setg_s]) (hQ_0 _ _ (by simp_all [f_bentFor, bI_0]))
  · refine g_iload_n dX3_bentFor_11 rfl ?_
    refine g_callS1i (c_X3_isTown) mi_X3_isTown ms_X3_isTown ml_X3_67 dX3_bentFor_12 (by decide) (Nat.le_of_ble_eq_true rfl) (Nat.le_of_ble_eq_true rfl) ?_
    refine g_if_eq 28 dX3_bentFor_15 (by decide) (fun c15 => ?_) (fun c15 => ?_)
    · refine g_aload_n dX3_bentFor_28 rfl ?_
      refine g_ldc dX3_bentFor_29 lc_X3_52 ?_
      refine g_callV1i (c_X3_found 0 (by decide) (by decide)) mi_X3_found mv_X3_found ml_X3_53 dX3_bentFor_31 rfl rfl (by decide) (Nat.le_of_ble_eq_true rfl) (Nat.le_of_ble_eq_true rfl) ?_
      exact g_ireturn dX3_bentFor_34 (by simp_all [f_bentFor, oV, fvl_0, fvl_1, fvl_2, fvl_3, fvl_4, fvl_5, fvl_6, bI_0, setg_s]) (hQ_0 _ _ (by simp_all [f_bentFor, bI_0]))
    · refine g_iload_n dX3_bentFor_18 rfl ?_
      refine g_iconst dX3_bentFor_19 ic_0 ?_
      refine g_bipush dX3_bentFor_20 bp_60 ?_
      refine g_callS3i (c_X3_within) mi_X3_within ms_X3_within ml_X3_48 dX3_bentFor_22 (by decide) (Nat.le_of_ble_eq_true rfl) (Nat.le_of_ble_eq_true rfl) ?_
      refine g_if_ne 35 dX3_bentFor_25 (by decide) (fun c25 => ?_) (fun c25 => ?_)
      · obtain ⟨e, le, he, te, rfl⟩ := isG_of2 hI (nb0 c8)
        obtain ⟨j, hj, tj, rfl⟩ := inB_of 60 (by decide) (nb0 c25)
        refine g_iconst dX3_bentFor_35 ic_0 ?_
        refine g_istore dX3_bentFor_36 (by decide) rfl ?_
        have ef : f_bentFor (h 1) (nI e) t (nI j) = oF (h 1) (fst1 (p_bent (h 1) e j t) 0 100) := by simp_all [f_bentFor, bI_0]
        rw [te, tj, ← hQ_x h _ _ ef, ef]
        exact g_h (setg_id h 3).symm (l_X3_bentFor hI he hj 0 (by decide) rfl)
      · refine g_aload_n dX3_bentFor_28 rfl ?_
        refine g_ldc dX3_bentFor_29 lc_X3_52 ?_
        refine g_callV1i (c_X3_found 0 (by decide) (by decide)) mi_X3_found mv_X3_found ml_X3_53 dX3_bentFor_31 rfl rfl (by decide) (Nat.le_of_ble_eq_true rfl) (Nat.le_of_ble_eq_true rfl) ?_
        exact g_ireturn dX3_bentFor_34 (by simp_all [f_bentFor, oV, fvl_0, fvl_1, fvl_2, fvl_3, fvl_4, fvl_5, fvl_6, bI_0, setg_s]) (hQ_0 _ _ (by simp_all [f_bentFor, bI_0]))

