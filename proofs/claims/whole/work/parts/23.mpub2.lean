/-! THE REFERENCE'S CALLS, second part -/
set_option maxRecDepth 100000 in
set_option maxHeartbeats 4000000 in
theorem l_X4_owes {X : Sc} {h : Hp} (hI : In (h 11)) {e : Nat} (he : e < 6) {v : Int32} : ∀ k, k ≤ 201 → fst1 (p_owes (h 11) e v) 0 201 = fst1 (p_owes (h 11) e v) k (201 - k) → Go X RX4 cX4_owes 4 6 31 [.ref 28, .int (nI e), .int v, .int (nI k)] [] (setg (setg h 13 (h 11)) 11 (daysR (h 11) k)) (some (.int (oV (oF (h 11) (fst1 (p_owes (h 11) e v) 0 201))))) (oXM h (fst1 (p_owes (h 11) e v) 0 201)) := by
  refine loop_up (201) ?_ ?_
  · intro hy
    refine g_iload_n dX4_owes_31 rfl ?_
    refine g_sipush dX4_owes_32 sp_200 ?_
    refine g_icmp_gt 58 dX4_owes_35 (by decide) (fun c35 => ?_) (fun c35 => ?_)
    · refine g_aload_n dX4_owes_58 rfl ?_
      refine g_callV0v (c_X4_putsBack) mi_X4_putsBack mv_X4_putsBack ml_X4_147 dX4_owes_59 rfl rfl (by decide) (Nat.le_of_ble_eq_true rfl) (Nat.le_of_ble_eq_true rfl) ?_
      refine g_h (back _ _) ?_
      refine g_iload_n dX4_owes_62 rfl ?_
      refine g_sipush dX4_owes_63 sp_200 ?_
      refine g_icmp_le 78 dX4_owes_66 (by decide) (fun c66 => ?_) (fun c66 => ?_)
      · exact absurd c66 (by decide)
      · refine g_aload_n dX4_owes_69 rfl ?_
        refine g_ldc dX4_owes_70 lc_X4_35 ?_
        refine g_callV1i (c_X4_finds 3 (by decide) (by decide)) mi_X4_finds mv_X4_finds ml_X4_36 dX4_owes_72 rfl rfl (by decide) (Nat.le_of_ble_eq_true rfl) (Nat.le_of_ble_eq_true rfl) ?_
        refine g_goto 79 dX4_owes_75 (by decide) ?_
        exact g_ireturn dX4_owes_79 (by rw [hy, fst_0]; rfl) (by rw [hy, fst_0]; rfl)
    · exact absurd (nI_lt (a := 200) (b := 201) (by decide) (by decide)) c35
  · intro k hk ih hy
    refine g_iload_n dX4_owes_31 rfl ?_
    refine g_sipush dX4_owes_32 sp_200 ?_
    refine g_icmp_gt 58 dX4_owes_35 (by decide) (fun c35 => ?_) (fun c35 => ?_)
    · exact absurd c35 (nI_nlt (a := 200) (b := k) (by omega) (by decide))
    · refine g_aload_n dX4_owes_38 rfl ?_
      refine g_iload_n dX4_owes_39 rfl ?_
      refine g_iconst dX4_owes_40 ic_2 ?_
      refine g_callV2i (c_X4_his (w := 2) he (by decide)) mi_X4_his mv_X4_his ml_X4_44 dX4_owes_41 rfl rfl (by decide) (Nat.le_of_ble_eq_true rfl) (Nat.le_of_ble_eq_true rfl) ?_
      refine g_iload_n dX4_owes_44 rfl ?_
      refine g_icmp_ge 58 dX4_owes_45 (by decide) (fun c45 => ?_) (fun c45 => ?_)
      · refine g_aload_n dX4_owes_58 rfl ?_
        refine g_callV0v (c_X4_putsBack) mi_X4_putsBack mv_X4_putsBack ml_X4_147 dX4_owes_59 rfl rfl (by decide) (Nat.le_of_ble_eq_true rfl) (Nat.le_of_ble_eq_true rfl) ?_
        refine g_h (back _ _) ?_
        refine g_iload_n dX4_owes_62 rfl ?_
        refine g_sipush dX4_owes_63 sp_200 ?_
        refine g_icmp_le 78 dX4_owes_66 (by decide) (fun c66 => ?_) (fun c66 => ?_)
        · refine g_iload_n dX4_owes_78 rfl ?_
          exact g_ireturn dX4_owes_79 (by rw [hy, fst_y (by simp_all [p_owes, setg_s]) (by omega)]; rfl) (by rw [hy, fst_y (by simp_all [p_owes, setg_s]) (by omega)]; rfl)
        · exact absurd (nI_le (a := k) (b := 200) (by omega) (by decide)) c66
      · refine g_aload_n dX4_owes_48 rfl ?_
        refine g_callV0v (c_X4_goes (by rw [setg_s]; exact hI.days k)) mi_X4_goes mv_X4_goes ml_X4_111 dX4_owes_49 rfl rfl (by decide) (Nat.le_of_ble_eq_true rfl) (Nat.le_of_ble_eq_true rfl) ?_
        refine g_iinc dX4_owes_52 rfl (ii_n _) (by decide) rfl ?_
        refine g_goto 31 dX4_owes_55 (by decide) ?_
        exact g_h (by rw [setg_s, setg_2]; rfl) (ih (by rw [hy, fst_n (by simp_all [p_owes, setg_s]) (by omega)]))

set_option maxRecDepth 100000 in
set_option maxHeartbeats 4000000 in
theorem c_X4_owes {X : Sc} {h : Hp} (hI : In (h 11)) {g v : Int32} : Ct X yX4_owes cX4_owes 4 (some .int) 6 [.ref 28, .int g, .int v] h (some (.int (oV (f_owes (h 11) g v)))) (hM h (f_owes (h 11) g v)) := by
  refine ⟨rfl, ?_⟩
  refine g_aload_n dX4_owes_0 rfl ?_
  refine g_iload_n dX4_owes_1 rfl ?_
  refine g_callV1i (c_X4_isGuest hI) mi_X4_isGuest mv_X4_isGuest ml_X4_86 dX4_owes_2 rfl rfl (by decide) (Nat.le_of_ble_eq_true rfl) (Nat.le_of_ble_eq_true rfl) ?_
  refine g_if_eq 18 dX4_owes_5 (by decide) (fun c5 => ?_) (fun c5 => ?_)
  · refine g_aload_n dX4_owes_18 rfl ?_
    refine g_ldc dX4_owes_19 lc_X4_34 ?_
    refine g_callV1i (c_X4_finds 0 (by decide) (by decide)) mi_X4_finds mv_X4_finds ml_X4_36 dX4_owes_21 rfl rfl (by decide) (Nat.le_of_ble_eq_true rfl) (Nat.le_of_ble_eq_true rfl) ?_
    exact g_ireturn dX4_owes_24 (by simp_all [f_owes, oV, fvl_0, fvl_1, fvl_2, fvl_3, fvl_4, fvl_5, fvl_6, bI_0]) (hM_0 _ (by simp_all [f_owes, bI_0]))
  · refine g_iload_n dX4_owes_8 rfl ?_
    refine g_iconst dX4_owes_9 ic_0 ?_
    refine g_ldc dX4_owes_10 lc_X4_89 ?_
    refine g_callS3i (c_X4_in) mi_X4_in ms_X4_in ml_X4_40 dX4_owes_12 (by decide) (Nat.le_of_ble_eq_true rfl) (Nat.le_of_ble_eq_true rfl) ?_
    refine g_if_ne 25 dX4_owes_15 (by decide) (fun c15 => ?_) (fun c15 => ?_)
    · obtain ⟨e, le, he, te, rfl⟩ := isG_of2 hI (nb0 c5)
      refine g_aload_n dX4_owes_25 rfl ?_
      refine g_callV0v (c_X4_thinks) mi_X4_thinks mv_X4_thinks ml_X4_144 dX4_owes_26 rfl rfl (by decide) (Nat.le_of_ble_eq_true rfl) (Nat.le_of_ble_eq_true rfl) ?_
      refine g_iconst dX4_owes_29 ic_0 ?_
      refine g_istore_n dX4_owes_30 (by decide) rfl ?_
      have ef : f_owes (h 11) (nI e) v = oF (h 11) (fst1 (p_owes (h 11) e v) 0 201) := by simp_all [f_owes, bI_0]
      rw [← hM_x h _ ef, ef]
      exact g_h (think1 h).symm (l_X4_owes hI he 0 (by decide) rfl)
    · refine g_aload_n dX4_owes_18 rfl ?_
      refine g_ldc dX4_owes_19 lc_X4_34 ?_
      refine g_callV1i (c_X4_finds 0 (by decide) (by decide)) mi_X4_finds mv_X4_finds ml_X4_36 dX4_owes_21 rfl rfl (by decide) (Nat.le_of_ble_eq_true rfl) (Nat.le_of_ble_eq_true rfl) ?_
      exact g_ireturn dX4_owes_24 (by simp_all [f_owes, oV, fvl_0, fvl_1, fvl_2, fvl_3, fvl_4, fvl_5, fvl_6, bI_0]) (hM_0 _ (by simp_all [f_owes, bI_0]))

set_option maxRecDepth 100000 in
set_option maxHeartbeats 4000000 in
theorem l_X4_part {X : Sc} {h : Hp} (hI : In (h 11)) {a b : Nat} (ha : a < 6) (hb : b < 6) : ∀ k, k ≤ 201 → fst1 (p_part (h 11) a b) 0 201 = fst1 (p_part (h 11) a b) k (201 - k) → Go X RX4 cX4_part 4 6 34 [.ref 28, .int (nI a), .int (nI b), .int (nI k)] [] (setg (setg h 13 (h 11)) 11 (daysR (h 11) k)) (some (.int (oV (oF (h 11) (fst1 (p_part (h 11) a b) 0 201))))) (oXM h (fst1 (p_part (h 11) a b) 0 201)) := by
  refine loop_up (201) ?_ ?_
  · intro hy
    refine g_iload_n dX4_part_34 rfl ?_
    refine g_sipush dX4_part_35 sp_200 ?_
    refine g_icmp_gt 66 dX4_part_38 (by decide) (fun c38 => ?_) (fun c38 => ?_)
    · refine g_aload_n dX4_part_66 rfl ?_
      refine g_callV0v (c_X4_putsBack) mi_X4_putsBack mv_X4_putsBack ml_X4_147 dX4_part_67 rfl rfl (by decide) (Nat.le_of_ble_eq_true rfl) (Nat.le_of_ble_eq_true rfl) ?_
      refine g_h (back _ _) ?_
      refine g_iload_n dX4_part_70 rfl ?_
      refine g_sipush dX4_part_71 sp_200 ?_
      refine g_icmp_le 86 dX4_part_74 (by decide) (fun c74 => ?_) (fun c74 => ?_)
      · exact absurd c74 (by decide)
      · refine g_aload_n dX4_part_77 rfl ?_
        refine g_ldc dX4_part_78 lc_X4_35 ?_
        refine g_callV1i (c_X4_finds 3 (by decide) (by decide)) mi_X4_finds mv_X4_finds ml_X4_36 dX4_part_80 rfl rfl (by decide) (Nat.le_of_ble_eq_true rfl) (Nat.le_of_ble_eq_true rfl) ?_
        refine g_goto 87 dX4_part_83 (by decide) ?_
        exact g_ireturn dX4_part_87 (by rw [hy, fst_0]; rfl) (by rw [hy, fst_0]; rfl)
    · exact absurd (nI_lt (a := 200) (b := 201) (by decide) (by decide)) c38
  · intro k hk ih hy
    refine g_iload_n dX4_part_34 rfl ?_
    refine g_sipush dX4_part_35 sp_200 ?_
    refine g_icmp_gt 66 dX4_part_38 (by decide) (fun c38 => ?_) (fun c38 => ?_)
    · exact absurd c38 (nI_nlt (a := 200) (b := k) (by omega) (by decide))
    · refine g_aload_n dX4_part_41 rfl ?_
      refine g_iload_n dX4_part_42 rfl ?_
      refine g_iconst dX4_part_43 ic_1 ?_
      refine g_callV2i (c_X4_his (w := 1) ha (by decide)) mi_X4_his mv_X4_his ml_X4_44 dX4_part_44 rfl rfl (by decide) (Nat.le_of_ble_eq_true rfl) (Nat.le_of_ble_eq_true rfl) ?_
      refine g_aload_n dX4_part_47 rfl ?_
      refine g_iload_n dX4_part_48 rfl ?_
      refine g_iconst dX4_part_49 ic_1 ?_
      refine g_callV2i (c_X4_his (w := 1) hb (by decide)) mi_X4_his mv_X4_his ml_X4_44 dX4_part_50 rfl rfl (by decide) (Nat.le_of_ble_eq_true rfl) (Nat.le_of_ble_eq_true rfl) ?_
      refine g_icmp_ne 66 dX4_part_53 (by decide) (fun c53 => ?_) (fun c53 => ?_)
      · refine g_aload_n dX4_part_66 rfl ?_
        refine g_callV0v (c_X4_putsBack) mi_X4_putsBack mv_X4_putsBack ml_X4_147 dX4_part_67 rfl rfl (by decide) (Nat.le_of_ble_eq_true rfl) (Nat.le_of_ble_eq_true rfl) ?_
        refine g_h (back _ _) ?_
        refine g_iload_n dX4_part_70 rfl ?_
        refine g_sipush dX4_part_71 sp_200 ?_
        refine g_icmp_le 86 dX4_part_74 (by decide) (fun c74 => ?_) (fun c74 => ?_)
        · refine g_iload_n dX4_part_86 rfl ?_
          exact g_ireturn dX4_part_87 (by rw [hy, fst_y (by simp_all [p_part, setg_s]) (by omega)]; rfl) (by rw [hy, fst_y (by simp_all [p_part, setg_s]) (by omega)]; rfl)
        · exact absurd (nI_le (a := k) (b := 200) (by omega) (by decide)) c74
      · refine g_aload_n dX4_part_56 rfl ?_
        refine g_callV0v (c_X4_goes (by rw [setg_s]; exact hI.days k)) mi_X4_goes mv_X4_goes ml_X4_111 dX4_part_57 rfl rfl (by decide) (Nat.le_of_ble_eq_true rfl) (Nat.le_of_ble_eq_true rfl) ?_
        refine g_iinc dX4_part_60 rfl (ii_n _) (by decide) rfl ?_
        refine g_goto 34 dX4_part_63 (by decide) ?_
        exact g_h (by rw [setg_s, setg_2]; rfl) (ih (by rw [hy, fst_n (by simp_all [p_part, setg_s]) (by omega)]))

set_option maxRecDepth 100000 in
set_option maxHeartbeats 4000000 in
theorem c_X4_part {X : Sc} {h : Hp} (hI : In (h 11)) {a b : Int32} : Ct X yX4_part cX4_part 4 (some .int) 6 [.ref 28, .int a, .int b] h (some (.int (oV (f_part (h 11) a b)))) (hM h (f_part (h 11) a b)) := by
  refine ⟨rfl, ?_⟩
  refine g_aload_n dX4_part_0 rfl ?_
  refine g_iload_n dX4_part_1 rfl ?_
  refine g_callV1i (c_X4_isGuest hI) mi_X4_isGuest mv_X4_isGuest ml_X4_86 dX4_part_2 rfl rfl (by decide) (Nat.le_of_ble_eq_true rfl) (Nat.le_of_ble_eq_true rfl) ?_
  refine g_if_eq 21 dX4_part_5 (by decide) (fun c5 => ?_) (fun c5 => ?_)
  · refine g_aload_n dX4_part_21 rfl ?_
    refine g_ldc dX4_part_22 lc_X4_34 ?_
    refine g_callV1i (c_X4_finds 0 (by decide) (by decide)) mi_X4_finds mv_X4_finds ml_X4_36 dX4_part_24 rfl rfl (by decide) (Nat.le_of_ble_eq_true rfl) (Nat.le_of_ble_eq_true rfl) ?_
    exact g_ireturn dX4_part_27 (by simp_all [f_part, oV, fvl_0, fvl_1, fvl_2, fvl_3, fvl_4, fvl_5, fvl_6, bI_0]) (hM_0 _ (by simp_all [f_part, bI_0]))
  · refine g_aload_n dX4_part_8 rfl ?_
    refine g_iload_n dX4_part_9 rfl ?_
    refine g_callV1i (c_X4_isGuest hI) mi_X4_isGuest mv_X4_isGuest ml_X4_86 dX4_part_10 rfl rfl (by decide) (Nat.le_of_ble_eq_true rfl) (Nat.le_of_ble_eq_true rfl) ?_
    refine g_if_eq 21 dX4_part_13 (by decide) (fun c13 => ?_) (fun c13 => ?_)
    · refine g_aload_n dX4_part_21 rfl ?_
      refine g_ldc dX4_part_22 lc_X4_34 ?_
      refine g_callV1i (c_X4_finds 0 (by decide) (by decide)) mi_X4_finds mv_X4_finds ml_X4_36 dX4_part_24 rfl rfl (by decide) (Nat.le_of_ble_eq_true rfl) (Nat.le_of_ble_eq_true rfl) ?_
      exact g_ireturn dX4_part_27 (by simp_all [f_part, oV, fvl_0, fvl_1, fvl_2, fvl_3, fvl_4, fvl_5, fvl_6, bI_0]) (hM_0 _ (by simp_all [f_part, bI_0]))
    · refine g_iload_n dX4_part_16 rfl ?_
      refine g_iload_n dX4_part_17 rfl ?_
      refine g_icmp_ne 28 dX4_part_18 (by decide) (fun c18 => ?_) (fun c18 => ?_)
      · obtain ⟨e, le, he, te, rfl⟩ := isG_of2 hI (nb0 c5)
        obtain ⟨j, lj, hj, tj, rfl⟩ := isG_of2 hI (nb0 c13)
        refine g_aload_n dX4_part_28 rfl ?_
        refine g_callV0v (c_X4_thinks) mi_X4_thinks mv_X4_thinks ml_X4_144 dX4_part_29 rfl rfl (by decide) (Nat.le_of_ble_eq_true rfl) (Nat.le_of_ble_eq_true rfl) ?_
        refine g_iconst dX4_part_32 ic_0 ?_
        refine g_istore_n dX4_part_33 (by decide) rfl ?_
        have ef : f_part (h 11) (nI e) (nI j) = oF (h 11) (fst1 (p_part (h 11) e j) 0 201) := by simp_all [f_part, bI_0]
        rw [← hM_x h _ ef, ef]
        exact g_h (think1 h).symm (l_X4_part hI he hj 0 (by decide) rfl)
      · refine g_aload_n dX4_part_21 rfl ?_
        refine g_ldc dX4_part_22 lc_X4_34 ?_
        refine g_callV1i (c_X4_finds 0 (by decide) (by decide)) mi_X4_finds mv_X4_finds ml_X4_36 dX4_part_24 rfl rfl (by decide) (Nat.le_of_ble_eq_true rfl) (Nat.le_of_ble_eq_true rfl) ?_
        exact g_ireturn dX4_part_27 (by simp_all [f_part, oV, fvl_0, fvl_1, fvl_2, fvl_3, fvl_4, fvl_5, fvl_6, bI_0]) (hM_0 _ (by simp_all [f_part, bI_0]))

theorem bil_le {m : Rw} (h : In m) : ∀ n, n ≤ 6 → ∃ x, x ≤ 99999 * n ∧ bilS m n = nI x
  | 0, _ => ⟨0, Nat.le_refl _, rfl⟩
  | n + 1, hn => by
    obtain ⟨x, hx, ex⟩ := bil_le h n (by omega)
    obtain ⟨y, hy, ey⟩ := h.g (g := n) (by omega) (w := 2) (by decide)
    have hy : y ≤ 99999 := hy
    exact ⟨x + y, by omega, by rw [bilS, ex, ey, nI_add]⟩
theorem bilA_lt {m : Rw} (h : In m) : bilA m < 1000000 := by
  obtain ⟨x, hx, ex⟩ := bil_le h (nG m) h.nG.1
  have hG := h.nG.1
  unfold bilA
  rw [ex]
  exact nI_lt (b := 1000000) (by omega) (by decide)
def bsM (f : Nat → Int32) (k : Nat) : Int32 × Int32 := if k = 0 then (-1, 0) else bst f k
theorem bst_nn (f : Nat → Int32) : ∀ k, k ≤ 8 → ¬ (bst f k).1 < 0
  | 0, _ => by show ¬ (0 : Int32) < 0; decide
  | k + 1, h => by
    unfold bst
    split
    · exact nI_pos (by omega)
    · exact bst_nn f k (by omega)
theorem bsM_0 {f : Nat → Int32} {k : Nat} (hk : k < 8) (c : (bsM f k).1 < 0) (h0 : f 0 < 1000000) : bsM f (k + 1) = (nI k, f k) := by
  have e : k = 0 := by
    by_cases q : k = 0
    · exact q
    · unfold bsM at c
      rw [if_neg q] at c
      exact absurd c (bst_nn f k (by omega))
  subst e
  show (if f 0 < 1000000 then (nI 0, f 0) else (0, 1000000)) = _
  rw [if_pos h0]
theorem bsM_s {f : Nat → Int32} {k : Nat} (c : ¬ (bsM f k).1 < 0) : bsM f (k + 1) = if f k < (bsM f k).2 then (nI k, f k) else bsM f k := by
  have e : ¬ k = 0 := fun q => c (by rw [q]; show (-1 : Int32) < 0; decide)
  unfold bsM
  rw [if_neg e, if_neg (by omega)]
  rfl
set_option maxRecDepth 100000 in
set_option maxHeartbeats 4000000 in
theorem l_X4_leastBy {X : Sc} {h : Hp} (hI : In (h 11)) {q N n : Nat} (hq : q < 98) (hN : N ≤ 8) (hn : n ≤ 60) {f : Int32} {R : Nat → Rw} (hR : ∀ k, k < N → upd (h 11) q (f + nI k) = R k ∧ In (R k)) : ∀ k, k ≤ N → Go X RX4 cX4_leastBy 10 6 13 [.ref 28, .int (nI q), .int f, .int (nI N), .int (nI n), .int (bsM (fun k => bilA (daysR (R k) n)) k).1, .int (bsM (fun k => bilA (daysR (R k) n)) k).2, .int (nI k), .null, .null] [] (setg h 13 (h 11)) (some (.int (bsM (fun k => bilA (daysR (R k) n)) N).1)) (setg h 13 (h 11)) := by
  refine loop_up (N) ?_ ?_
  · refine g_iload dX4_leastBy_13 rfl ?_
    refine g_iload_n dX4_leastBy_15 rfl ?_
    refine g_icmp_ge 98 dX4_leastBy_16 (by decide) (fun c16 => ?_) (fun c16 => ?_)
    · refine g_iload dX4_leastBy_98 rfl ?_
      exact g_ireturn dX4_leastBy_100 rfl rfl
    · exact (lp_yes ((rfl : nI N = nI N)) (by omega) c16).elim
  · intro k hk ih
    have h0 : (fun k => bilA (daysR (R k) n)) 0 < 1000000 := bilA_lt ((hR 0 (by omega)).2.days n)
    refine g_iload dX4_leastBy_13 rfl ?_
    refine g_iload_n dX4_leastBy_15 rfl ?_
    refine g_icmp_ge 98 dX4_leastBy_16 (by decide) (fun c16 => ?_) (fun c16 => ?_)
    · exact (lp_no ((rfl : nI N = nI N)) (by omega) hk c16).elim
    · refine g_aload_n dX4_leastBy_19 rfl ?_
      refine g_getR dX4_leastBy_20 fl_X4_9 rfl rfl ?_
      refine g_iload_n dX4_leastBy_23 rfl ?_
      refine g_iload_n dX4_leastBy_24 rfl ?_
      refine g_iload dX4_leastBy_25 rfl ?_
      refine g_iadd dX4_leastBy_27 ?_
      refine g_iast0 q dX4_leastBy_28 rfl rfl hq ?_
      refine g_h (h2 := setg (setg h 13 (h 11)) 11 (R k)) (by rw [up_setg, setg_n _ _ (by decide), (hR k hk).1]) ?_
      refine g_aload_n dX4_leastBy_29 rfl ?_
      refine g_iload dX4_leastBy_30 rfl ?_
      refine g_callV1v (c_X4_goesFor (by rw [setg_s]; exact (hR k hk).2) (by omega)) mi_X4_goesFor mv_X4_goesFor ml_X4_114 dX4_leastBy_32 rfl rfl (by decide) (Nat.le_of_ble_eq_true rfl) (Nat.le_of_ble_eq_true rfl) ?_
      refine g_h (h2 := setg (setg h 13 (h 11)) 11 (daysR (R k) n)) (by rw [setg_s, setg_2]) ?_
      refine g_aload_n dX4_leastBy_35 rfl ?_
      refine g_callV0i (c_X4_bills (by rw [setg_s]; exact (hR k hk).2.days _)) mi_X4_bills mv_X4_bills ml_X4_118 dX4_leastBy_36 rfl rfl (by decide) (Nat.le_of_ble_eq_true rfl) (Nat.le_of_ble_eq_true rfl) ?_
      refine g_st (st2 := [.int (bilA (daysR (R k) n))]) (by rw [setg_s]; rfl) ?_
      refine g_istore dX4_leastBy_39 (by decide) rfl ?_
      refine g_aload_n dX4_leastBy_41 rfl ?_
      refine g_callV0v (c_X4_putsBack) mi_X4_putsBack mv_X4_putsBack ml_X4_147 dX4_leastBy_42 rfl rfl (by decide) (Nat.le_of_ble_eq_true rfl) (Nat.le_of_ble_eq_true rfl) ?_
      refine g_h (back _ _) ?_
      refine g_iload dX4_leastBy_45 rfl ?_
      refine g_if_lt 57 dX4_leastBy_47 (by decide) (fun c47 => ?_) (fun c47 => ?_)
      · refine g_iconst dX4_leastBy_57 ic_1 ?_
        refine g_goto 62 dX4_leastBy_58 (by decide) ?_
        refine g_istore dX4_leastBy_62 (by decide) rfl ?_
        refine g_iload dX4_leastBy_64 rfl ?_
        refine g_if_eq 74 dX4_leastBy_66 (by decide) (fun c66 => ?_) (fun c66 => ?_)
        · refine g_iload dX4_leastBy_74 rfl ?_
          refine g_istore dX4_leastBy_76 (by decide) rfl ?_
          refine g_iload dX4_leastBy_78 rfl ?_
          refine g_if_eq 88 dX4_leastBy_80 (by decide) (fun c80 => ?_) (fun c80 => ?_)
          · refine g_iload dX4_leastBy_88 rfl ?_
            refine g_istore dX4_leastBy_90 (by decide) rfl ?_
            refine g_iinc dX4_leastBy_92 rfl (ii_n _) (by decide) rfl ?_
            refine g_goto 13 dX4_leastBy_95 (by decide) ?_
            refine g_mask [true, true, true, true, true, true, true, true, false, false] ?_
            first
            | exact absurd c66 (by decide)
            | exact absurd c80 (by decide)
            | exact g_lv (by first | (rw [bsM_0 (by omega) c47 h0]; rfl) | (rw [bsM_s c47, if_pos (Int32.not_le.mp c54)]; rfl) | (rw [bsM_s c47, if_neg (Int32.not_lt.mpr c54)]; rfl)) ih
          · refine g_iload dX4_leastBy_83 rfl ?_
            refine g_goto 90 dX4_leastBy_85 (by decide) ?_
            refine g_istore dX4_leastBy_90 (by decide) rfl ?_
            refine g_iinc dX4_leastBy_92 rfl (ii_n _) (by decide) rfl ?_
            refine g_goto 13 dX4_leastBy_95 (by decide) ?_
            refine g_mask [true, true, true, true, true, true, true, true, false, false] ?_
            first
            | exact absurd c66 (by decide)
            | exact absurd c80 (by decide)
            | exact g_lv (by first | (rw [bsM_0 (by omega) c47 h0]; rfl) | (rw [bsM_s c47, if_pos (Int32.not_le.mp c54)]; rfl) | (rw [bsM_s c47, if_neg (Int32.not_lt.mpr c54)]; rfl)) ih
        · refine g_iload dX4_leastBy_69 rfl ?_
          refine g_goto 76 dX4_leastBy_71 (by decide) ?_
          refine g_istore dX4_leastBy_76 (by decide) rfl ?_
          refine g_iload dX4_leastBy_78 rfl ?_
          refine g_if_eq 88 dX4_leastBy_80 (by decide) (fun c80 => ?_) (fun c80 => ?_)
          · refine g_iload dX4_leastBy_88 rfl ?_
            refine g_istore dX4_leastBy_90 (by decide) rfl ?_
            refine g_iinc dX4_leastBy_92 rfl (ii_n _) (by decide) rfl ?_
            refine g_goto 13 dX4_leastBy_95 (by decide) ?_
            refine g_mask [true, true, true, true, true, true, true, true, false, false] ?_
            first
            | exact absurd c66 (by decide)
            | exact absurd c80 (by decide)
            | exact g_lv (by first | (rw [bsM_0 (by omega) c47 h0]; rfl) | (rw [bsM_s c47, if_pos (Int32.not_le.mp c54)]; rfl) | (rw [bsM_s c47, if_neg (Int32.not_lt.mpr c54)]; rfl)) ih
          · refine g_iload dX4_leastBy_83 rfl ?_
            refine g_goto 90 dX4_leastBy_85 (by decide) ?_
            refine g_istore dX4_leastBy_90 (by decide) rfl ?_
            refine g_iinc dX4_leastBy_92 rfl (ii_n _) (by decide) rfl ?_
            refine g_goto 13 dX4_leastBy_95 (by decide) ?_
            refine g_mask [true, true, true, true, true, true, true, true, false, false] ?_
            first
            | exact absurd c66 (by decide)
            | exact absurd c80 (by decide)
            | exact g_lv (by first | (rw [bsM_0 (by omega) c47 h0]; rfl) | (rw [bsM_s c47, if_pos (Int32.not_le.mp c54)]; rfl) | (rw [bsM_s c47, if_neg (Int32.not_lt.mpr c54)]; rfl)) ih
      · refine g_iload dX4_leastBy_50 rfl ?_
        refine g_iload dX4_leastBy_52 rfl ?_
        refine g_icmp_ge 61 dX4_leastBy_54 (by decide) (fun c54 => ?_) (fun c54 => ?_)
        · refine g_iconst dX4_leastBy_61 ic_0 ?_
          refine g_istore dX4_leastBy_62 (by decide) rfl ?_
          refine g_iload dX4_leastBy_64 rfl ?_
          refine g_if_eq 74 dX4_leastBy_66 (by decide) (fun c66 => ?_) (fun c66 => ?_)
          · refine g_iload dX4_leastBy_74 rfl ?_
            refine g_istore dX4_leastBy_76 (by decide) rfl ?_
            refine g_iload dX4_leastBy_78 rfl ?_
            refine g_if_eq 88 dX4_leastBy_80 (by decide) (fun c80 => ?_) (fun c80 => ?_)
            · refine g_iload dX4_leastBy_88 rfl ?_
              refine g_istore dX4_leastBy_90 (by decide) rfl ?_
              refine g_iinc dX4_leastBy_92 rfl (ii_n _) (by decide) rfl ?_
              refine g_goto 13 dX4_leastBy_95 (by decide) ?_
              refine g_mask [true, true, true, true, true, true, true, true, false, false] ?_
              first
              | exact absurd c66 (by decide)
              | exact absurd c80 (by decide)
              | exact g_lv (by first | (rw [bsM_0 (by omega) c47 h0]; rfl) | (rw [bsM_s c47, if_pos (Int32.not_le.mp c54)]; rfl) | (rw [bsM_s c47, if_neg (Int32.not_lt.mpr c54)]; rfl)) ih
            · refine g_iload dX4_leastBy_83 rfl ?_
              refine g_goto 90 dX4_leastBy_85 (by decide) ?_
              refine g_istore dX4_leastBy_90 (by decide) rfl ?_
              refine g_iinc dX4_leastBy_92 rfl (ii_n _) (by decide) rfl ?_
              refine g_goto 13 dX4_leastBy_95 (by decide) ?_
              refine g_mask [true, true, true, true, true, true, true, true, false, false] ?_
              first
              | exact absurd c66 (by decide)
              | exact absurd c80 (by decide)
              | exact g_lv (by first | (rw [bsM_0 (by omega) c47 h0]; rfl) | (rw [bsM_s c47, if_pos (Int32.not_le.mp c54)]; rfl) | (rw [bsM_s c47, if_neg (Int32.not_lt.mpr c54)]; rfl)) ih
          · refine g_iload dX4_leastBy_69 rfl ?_
            refine g_goto 76 dX4_leastBy_71 (by decide) ?_
            refine g_istore dX4_leastBy_76 (by decide) rfl ?_
            refine g_iload dX4_leastBy_78 rfl ?_
            refine g_if_eq 88 dX4_leastBy_80 (by decide) (fun c80 => ?_) (fun c80 => ?_)
            · refine g_iload dX4_leastBy_88 rfl ?_
              refine g_istore dX4_leastBy_90 (by decide) rfl ?_
              refine g_iinc dX4_leastBy_92 rfl (ii_n _) (by decide) rfl ?_
              refine g_goto 13 dX4_leastBy_95 (by decide) ?_
              refine g_mask [true, true, true, true, true, true, true, true, false, false] ?_
              first
              | exact absurd c66 (by decide)
              | exact absurd c80 (by decide)
              | exact g_lv (by first | (rw [bsM_0 (by omega) c47 h0]; rfl) | (rw [bsM_s c47, if_pos (Int32.not_le.mp c54)]; rfl) | (rw [bsM_s c47, if_neg (Int32.not_lt.mpr c54)]; rfl)) ih
            · refine g_iload dX4_leastBy_83 rfl ?_
              refine g_goto 90 dX4_leastBy_85 (by decide) ?_
              refine g_istore dX4_leastBy_90 (by decide) rfl ?_
              refine g_iinc dX4_leastBy_92 rfl (ii_n _) (by decide) rfl ?_
              refine g_goto 13 dX4_leastBy_95 (by decide) ?_
              refine g_mask [true, true, true, true, true, true, true, true, false, false] ?_
              first
              | exact absurd c66 (by decide)
              | exact absurd c80 (by decide)
              | exact g_lv (by first | (rw [bsM_0 (by omega) c47 h0]; rfl) | (rw [bsM_s c47, if_pos (Int32.not_le.mp c54)]; rfl) | (rw [bsM_s c47, if_neg (Int32.not_lt.mpr c54)]; rfl)) ih
        · refine g_iconst dX4_leastBy_57 ic_1 ?_
          refine g_goto 62 dX4_leastBy_58 (by decide) ?_
          refine g_istore dX4_leastBy_62 (by decide) rfl ?_
          refine g_iload dX4_leastBy_64 rfl ?_
          refine g_if_eq 74 dX4_leastBy_66 (by decide) (fun c66 => ?_) (fun c66 => ?_)
          · refine g_iload dX4_leastBy_74 rfl ?_
            refine g_istore dX4_leastBy_76 (by decide) rfl ?_
            refine g_iload dX4_leastBy_78 rfl ?_
            refine g_if_eq 88 dX4_leastBy_80 (by decide) (fun c80 => ?_) (fun c80 => ?_)
            · refine g_iload dX4_leastBy_88 rfl ?_
              refine g_istore dX4_leastBy_90 (by decide) rfl ?_
              refine g_iinc dX4_leastBy_92 rfl (ii_n _) (by decide) rfl ?_
              refine g_goto 13 dX4_leastBy_95 (by decide) ?_
              refine g_mask [true, true, true, true, true, true, true, true, false, false] ?_
              first
              | exact absurd c66 (by decide)
              | exact absurd c80 (by decide)
              | exact g_lv (by first | (rw [bsM_0 (by omega) c47 h0]; rfl) | (rw [bsM_s c47, if_pos (Int32.not_le.mp c54)]; rfl) | (rw [bsM_s c47, if_neg (Int32.not_lt.mpr c54)]; rfl)) ih
            · refine g_iload dX4_leastBy_83 rfl ?_
              refine g_goto 90 dX4_leastBy_85 (by decide) ?_
              refine g_istore dX4_leastBy_90 (by decide) rfl ?_
              refine g_iinc dX4_leastBy_92 rfl (ii_n _) (by decide) rfl ?_
              refine g_goto 13 dX4_leastBy_95 (by decide) ?_
              refine g_mask [true, true, true, true, true, true, true, true, false, false] ?_
              first
              | exact absurd c66 (by decide)
              | exact absurd c80 (by decide)
              | exact g_lv (by first | (rw [bsM_0 (by omega) c47 h0]; rfl) | (rw [bsM_s c47, if_pos (Int32.not_le.mp c54)]; rfl) | (rw [bsM_s c47, if_neg (Int32.not_lt.mpr c54)]; rfl)) ih
          · refine g_iload dX4_leastBy_69 rfl ?_
            refine g_goto 76 dX4_leastBy_71 (by decide) ?_
            refine g_istore dX4_leastBy_76 (by decide) rfl ?_
            refine g_iload dX4_leastBy_78 rfl ?_
            refine g_if_eq 88 dX4_leastBy_80 (by decide) (fun c80 => ?_) (fun c80 => ?_)
            · refine g_iload dX4_leastBy_88 rfl ?_
              refine g_istore dX4_leastBy_90 (by decide) rfl ?_
              refine g_iinc dX4_leastBy_92 rfl (ii_n _) (by decide) rfl ?_
              refine g_goto 13 dX4_leastBy_95 (by decide) ?_
              refine g_mask [true, true, true, true, true, true, true, true, false, false] ?_
              first
              | exact absurd c66 (by decide)
              | exact absurd c80 (by decide)
              | exact g_lv (by first | (rw [bsM_0 (by omega) c47 h0]; rfl) | (rw [bsM_s c47, if_pos (Int32.not_le.mp c54)]; rfl) | (rw [bsM_s c47, if_neg (Int32.not_lt.mpr c54)]; rfl)) ih
            · refine g_iload dX4_leastBy_83 rfl ?_
              refine g_goto 90 dX4_leastBy_85 (by decide) ?_
              refine g_istore dX4_leastBy_90 (by decide) rfl ?_
              refine g_iinc dX4_leastBy_92 rfl (ii_n _) (by decide) rfl ?_
              refine g_goto 13 dX4_leastBy_95 (by decide) ?_
              refine g_mask [true, true, true, true, true, true, true, true, false, false] ?_
              first
              | exact absurd c66 (by decide)
              | exact absurd c80 (by decide)
              | exact g_lv (by first | (rw [bsM_0 (by omega) c47 h0]; rfl) | (rw [bsM_s c47, if_pos (Int32.not_le.mp c54)]; rfl) | (rw [bsM_s c47, if_neg (Int32.not_lt.mpr c54)]; rfl)) ih

set_option maxRecDepth 100000 in
set_option maxHeartbeats 4000000 in
theorem c_X4_leastBy {X : Sc} {h : Hp} (hI : In (h 11)) {q N n : Nat} (hq : q < 98) (hN : N ≤ 8) (hn : n ≤ 60) {f : Int32} {R : Nat → Rw} (hR : ∀ k, k < N → upd (h 11) q (f + nI k) = R k ∧ In (R k)) : Ct X yX4_leastBy cX4_leastBy 10 (some .int) 6 [.ref 28, .int (nI q), .int f, .int (nI N), .int (nI n)] h (some (.int (bsM (fun k => bilA (daysR (R k) n)) N).1)) (setg h 13 (h 11)) := by
  refine ⟨rfl, ?_⟩
  refine g_aload_n dX4_leastBy_0 rfl ?_
  refine g_callV0v (c_X4_thinks) mi_X4_thinks mv_X4_thinks ml_X4_144 dX4_leastBy_1 rfl rfl (by decide) (Nat.le_of_ble_eq_true rfl) (Nat.le_of_ble_eq_true rfl) ?_
  refine g_iconst dX4_leastBy_4 ic_m1 ?_
  refine g_istore dX4_leastBy_5 (by decide) rfl ?_
  refine g_iconst dX4_leastBy_7 ic_0 ?_
  refine g_istore dX4_leastBy_8 (by decide) rfl ?_
  refine g_iconst dX4_leastBy_10 ic_0 ?_
  refine g_istore dX4_leastBy_11 (by decide) rfl ?_
  exact l_X4_leastBy hI hq hN hn hR 0 (Nat.zero_le _)

set_option maxRecDepth 100000 in
set_option maxHeartbeats 4000000 in
theorem c_X4_dishFor {X : Sc} {h : Hp} (hI : In (h 11)) {i n : Int32} : Ct X yX4_dishFor cX4_dishFor 3 (some .int) 7 [.ref 28, .int i, .int n] h (some (.int (oV (f_dishFor (h 11) i n)))) (hM h (f_dishFor (h 11) i n)) := by
  refine ⟨rfl, ?_⟩
  refine g_iload_n dX4_dishFor_0 rfl ?_
  refine g_callS1i (c_X4_isPlace) mi_X4_isPlace ms_X4_isPlace ml_X4_55 dX4_dishFor_1 (by decide) (Nat.le_of_ble_eq_true rfl) (Nat.le_of_ble_eq_true rfl) ?_
  refine g_if_eq 44 dX4_dishFor_4 (by decide) (fun c4 => ?_) (fun c4 => ?_)
  · refine g_aload_n dX4_dishFor_44 rfl ?_
    refine g_ldc dX4_dishFor_45 lc_X4_34 ?_
    refine g_callV1i (c_X4_finds 0 (by decide) (by decide)) mi_X4_finds mv_X4_finds ml_X4_36 dX4_dishFor_47 rfl rfl (by decide) (Nat.le_of_ble_eq_true rfl) (Nat.le_of_ble_eq_true rfl) ?_
    exact g_ireturn dX4_dishFor_50 (by simp_all [f_dishFor, oV, fvl_0, fvl_1, fvl_2, fvl_3, fvl_4, fvl_5, fvl_6, bI_0]) (hM_0 _ (by simp_all [f_dishFor, bI_0]))
  · refine g_iload_n dX4_dishFor_7 rfl ?_
    refine g_iconst dX4_dishFor_8 ic_0 ?_
    refine g_bipush dX4_dishFor_9 bp_60 ?_
    refine g_callS3i (c_X4_in) mi_X4_in ms_X4_in ml_X4_40 dX4_dishFor_11 (by decide) (Nat.le_of_ble_eq_true rfl) (Nat.le_of_ble_eq_true rfl) ?_
    refine g_if_eq 44 dX4_dishFor_14 (by decide) (fun c14 => ?_) (fun c14 => ?_)
    · refine g_aload_n dX4_dishFor_44 rfl ?_
      refine g_ldc dX4_dishFor_45 lc_X4_34 ?_
      refine g_callV1i (c_X4_finds 0 (by decide) (by decide)) mi_X4_finds mv_X4_finds ml_X4_36 dX4_dishFor_47 rfl rfl (by decide) (Nat.le_of_ble_eq_true rfl) (Nat.le_of_ble_eq_true rfl) ?_
      exact g_ireturn dX4_dishFor_50 (by simp_all [f_dishFor, oV, fvl_0, fvl_1, fvl_2, fvl_3, fvl_4, fvl_5, fvl_6, bI_0]) (hM_0 _ (by simp_all [f_dishFor, bI_0]))
    · obtain ⟨j, hj, tj, rfl⟩ := inB_of 5 (by decide) (nb0 c4)
      obtain ⟨e, he, te, rfl⟩ := inB_of 60 (by decide) (nb0 c14)
      obtain ⟨z, z6, z8, ez⟩ := hI.meal (i := j) (by omega)
      have et : tn (h 11 (4 + j)) = z := by rw [ez]; exact nI_clamp (by omega)
      refine g_aload_n dX4_dishFor_17 rfl ?_
      refine g_iconst dX4_dishFor_18 ic_4 ?_
      refine g_iload_n dX4_dishFor_19 rfl ?_
      refine g_iadd dX4_dishFor_20 ?_
      refine g_st (st2 := [.int (nI (4 + j)), .ref 28]) (by rw [jx4]) ?_
      refine g_aload_n dX4_dishFor_21 rfl ?_
      refine g_getR dX4_dishFor_22 fl_X4_9 rfl rfl ?_
      refine g_iconst dX4_dishFor_25 ic_4 ?_
      refine g_iload_n dX4_dishFor_26 rfl ?_
      refine g_iadd dX4_dishFor_27 ?_
      refine g_iald0 (4 + j) dX4_dishFor_28 rfl (jx4 j) (by omega) ?_
      refine g_bipush dX4_dishFor_29 bp_10 ?_
      refine g_idiv dX4_dishFor_31 (by decide) ?_
      refine g_bipush dX4_dishFor_32 bp_10 ?_
      refine g_imul dX4_dishFor_34 ?_
      refine g_st (st2 := [.int (nI (z / 10 * 10)), .int (nI (4 + j)), .ref 28]) (by rw [ez, div10 (by omega), show (10 : Int32) = nI 10 from rfl, pk_mul]) ?_
      refine g_bipush dX4_dishFor_35 bp_8 ?_
      refine g_iload_n dX4_dishFor_37 rfl ?_
      refine g_callV4i (c_X4_leastBy (N := 8) (R := fun k => rowL (h 11) j k) hI (by omega) (by decide) he (fun k hk => ⟨by rw [nI_add]; unfold rowL; rw [et, show z / 10 * 10 + k = 10 * (z / 10) + k by omega], hI.rowL (by omega) hk⟩)) mi_X4_leastBy mv_X4_leastBy ml_X4_153 dX4_dishFor_38 rfl rfl (by decide) (Nat.le_of_ble_eq_true rfl) (Nat.le_of_ble_eq_true rfl) ?_
      have ef : f_dishFor (h 11) (nI j) (nI e) = .inr ((bst (fun k => bilA (daysR (rowL (h 11) j k) e)) 8).1, h 11) := by simp_all [f_dishFor, bI_0]
      rw [← hM_v h ef, ef]
      simp only [oV]
      refine g_goto 50 dX4_dishFor_41 (by decide) ?_
      exact g_ireturn dX4_dishFor_50 (by rw [bsM, if_neg (by decide)]) rfl

set_option maxRecDepth 100000 in
set_option maxHeartbeats 4000000 in
theorem c_X4_kindFor {X : Sc} {h : Hp} (hI : In (h 11)) {d n : Int32} : Ct X yX4_kindFor cX4_kindFor 3 (some .int) 7 [.ref 28, .int d, .int n] h (some (.int (oV (f_kindFor (h 11) d n)))) (hM h (f_kindFor (h 11) d n)) := by
  refine ⟨rfl, ?_⟩
  refine g_aload_n dX4_kindFor_0 rfl ?_
  refine g_iload_n dX4_kindFor_1 rfl ?_
  refine g_callV1i (c_X4_isDish hI) mi_X4_isDish mv_X4_isDish ml_X4_80 dX4_kindFor_2 rfl rfl (by decide) (Nat.le_of_ble_eq_true rfl) (Nat.le_of_ble_eq_true rfl) ?_
  refine g_if_eq 36 dX4_kindFor_5 (by decide) (fun c5 => ?_) (fun c5 => ?_)
  · refine g_aload_n dX4_kindFor_36 rfl ?_
    refine g_ldc dX4_kindFor_37 lc_X4_34 ?_
    refine g_callV1i (c_X4_finds 0 (by decide) (by decide)) mi_X4_finds mv_X4_finds ml_X4_36 dX4_kindFor_39 rfl rfl (by decide) (Nat.le_of_ble_eq_true rfl) (Nat.le_of_ble_eq_true rfl) ?_
    exact g_ireturn dX4_kindFor_42 (by simp_all [f_kindFor, oV, fvl_0, fvl_1, fvl_2, fvl_3, fvl_4, fvl_5, fvl_6, bI_0]) (hM_0 _ (by simp_all [f_kindFor, bI_0]))
  · refine g_iload_n dX4_kindFor_8 rfl ?_
    refine g_iconst dX4_kindFor_9 ic_0 ?_
    refine g_bipush dX4_kindFor_10 bp_60 ?_
    refine g_callS3i (c_X4_in) mi_X4_in ms_X4_in ml_X4_40 dX4_kindFor_12 (by decide) (Nat.le_of_ble_eq_true rfl) (Nat.le_of_ble_eq_true rfl) ?_
    refine g_if_eq 36 dX4_kindFor_15 (by decide) (fun c15 => ?_) (fun c15 => ?_)
    · refine g_aload_n dX4_kindFor_36 rfl ?_
      refine g_ldc dX4_kindFor_37 lc_X4_34 ?_
      refine g_callV1i (c_X4_finds 0 (by decide) (by decide)) mi_X4_finds mv_X4_finds ml_X4_36 dX4_kindFor_39 rfl rfl (by decide) (Nat.le_of_ble_eq_true rfl) (Nat.le_of_ble_eq_true rfl) ?_
      exact g_ireturn dX4_kindFor_42 (by simp_all [f_kindFor, oV, fvl_0, fvl_1, fvl_2, fvl_3, fvl_4, fvl_5, fvl_6, bI_0]) (hM_0 _ (by simp_all [f_kindFor, bI_0]))
    · obtain ⟨j, lj, hj, tj, rfl⟩ := isD_of2 hI (nb0 c5)
      obtain ⟨e, he, te, rfl⟩ := inB_of 60 (by decide) (nb0 c15)
      refine g_aload_n dX4_kindFor_18 rfl ?_
      refine g_bipush dX4_kindFor_19 bp_10 ?_
      refine g_bipush dX4_kindFor_21 bp_6 ?_
      refine g_iload_n dX4_kindFor_23 rfl ?_
      refine g_imul dX4_kindFor_24 ?_
      refine g_iadd dX4_kindFor_25 ?_
      refine g_st (st2 := [.int (nI (10 + (j * 6 + 0))), .ref 28]) (by rw [← jx6, show nI 0 = 0 from rfl, Int32.add_zero]) ?_
      refine g_iconst dX4_kindFor_26 ic_0 ?_
      refine g_bipush dX4_kindFor_27 bp_7 ?_
      refine g_iload_n dX4_kindFor_29 rfl ?_
      refine g_callV4i (c_X4_leastBy (N := 7) (R := fun k => pD (h 11) j 0 (nI k)) hI (by omega) (by decide) he (fun k hk => ⟨by rw [show (0 : Int32) + nI k = nI k from Int32.zero_add _]; rfl, hI.pD hj (w := 0) (by decide) (show k ≤ 6 by omega)⟩)) mi_X4_leastBy mv_X4_leastBy ml_X4_153 dX4_kindFor_30 rfl rfl (by decide) (Nat.le_of_ble_eq_true rfl) (Nat.le_of_ble_eq_true rfl) ?_
      have ef : f_kindFor (h 11) (nI j) (nI e) = .inr ((bst (fun k => bilA (daysR (pD (h 11) j 0 (nI k)) e)) 7).1, h 11) := by simp_all [f_kindFor, bI_0]
      rw [← hM_v h ef, ef]
      simp only [oV]
      refine g_goto 42 dX4_kindFor_33 (by decide) ?_
      exact g_ireturn dX4_kindFor_42 (by rw [bsM, if_neg (by decide)]) rfl

set_option maxRecDepth 100000 in
set_option maxHeartbeats 4000000 in
theorem c_X4_orNone_v {X : Sc} {h : Hp} {n : Nat} (hn : n < 2 ^ 31) : Ct X yX4_orNone cX4_orNone 2 (some .int) 1 [.ref 28, .int (nI n)] h (some (.int (nI n))) h := by
  refine ⟨rfl, ?_⟩
  refine g_iload_n dX4_orNone_0 rfl ?_
  refine g_if_ge 13 dX4_orNone_1 (by decide) (fun c1 => ?_) (fun c1 => ?_)
  · refine g_iload_n dX4_orNone_13 rfl ?_
    exact g_ireturn dX4_orNone_14 rfl rfl
  · exact absurd (nI_pos' hn) c1

set_option maxRecDepth 100000 in
set_option maxHeartbeats 4000000 in
theorem c_X4_orNone_n {X : Sc} {h : Hp} : Ct X yX4_orNone cX4_orNone 2 (some .int) 1 [.ref 28, .int (-1)] h (some (.int (-1000004))) (setg h 15 (inc (h 15) 3)) := by
  refine ⟨rfl, ?_⟩
  refine g_iload_n dX4_orNone_0 rfl ?_
  refine g_if_ge 13 dX4_orNone_1 (by decide) (fun c1 => ?_) (fun c1 => ?_)
  · exact absurd c1 (by decide)
  · refine g_aload_n dX4_orNone_4 rfl ?_
    refine g_ldc dX4_orNone_5 lc_X4_35 ?_
    refine g_callV1i (c_X4_finds 3 (by decide) (by decide)) mi_X4_finds mv_X4_finds ml_X4_36 dX4_orNone_7 rfl rfl (by decide) (Nat.le_of_ble_eq_true rfl) (Nat.le_of_ble_eq_true rfl) ?_
    refine g_goto 14 dX4_orNone_10 (by decide) ?_
    exact g_ireturn dX4_orNone_14 rfl rfl

set_option maxRecDepth 100000 in
set_option maxHeartbeats 4000000 in
theorem e_X4_bentFor {X : Sc} {h : Hp} {e n k j : Nat} (hj : j < 100) (hk : k ≤ 100) {t : Int32} : Go X RX4 cX4_bentFor 6 6 42 [.ref 28, .int (nI e), .int t, .int (nI n), .int (nI j), .int (nI k)] [] h (some (.int (nI j))) h := by
  refine g_iload dX4_bentFor_42 rfl ?_
  refine g_bipush dX4_bentFor_44 bp_99 ?_
  refine g_icmp_gt 95 dX4_bentFor_46 (by decide) (fun c46 => ?_) (fun c46 => ?_)
  · refine g_aload_n dX4_bentFor_95 rfl ?_
    refine g_iload dX4_bentFor_96 rfl ?_
    refine g_callV1i (c_X4_orNone_v (by omega)) mi_X4_orNone mv_X4_orNone ml_X4_157 dX4_bentFor_98 rfl rfl (by decide) (Nat.le_of_ble_eq_true rfl) (Nat.le_of_ble_eq_true rfl) ?_
    exact g_ireturn dX4_bentFor_101 rfl rfl
  · refine g_iload dX4_bentFor_49 rfl ?_
    refine g_if_ge 95 dX4_bentFor_51 (by decide) (fun c51 => ?_) (fun c51 => ?_)
    · refine g_aload_n dX4_bentFor_95 rfl ?_
      refine g_iload dX4_bentFor_96 rfl ?_
      refine g_callV1i (c_X4_orNone_v (by omega)) mi_X4_orNone mv_X4_orNone ml_X4_157 dX4_bentFor_98 rfl rfl (by decide) (Nat.le_of_ble_eq_true rfl) (Nat.le_of_ble_eq_true rfl) ?_
      exact g_ireturn dX4_bentFor_101 rfl rfl
    · exact absurd (nI_pos' (n := j) (by omega)) c51

set_option maxRecDepth 100000 in
set_option maxHeartbeats 4000000 in
theorem l_X4_bentFor {X : Sc} {h : Hp} (hI : In (h 11)) {e n : Nat} (he : e < 6) (hn : n ≤ 60) {t : Int32} : ∀ k, k ≤ 100 → fst1 (p_bent (h 11) e n t) 0 100 = fst1 (p_bent (h 11) e n t) k (100 - k) → Go X RX4 cX4_bentFor 6 6 42 [.ref 28, .int (nI e), .int t, .int (nI n), .int (-1), .int (nI k)] [] (setg h 13 (h 11)) (some (.int (oV (oF (h 11) (fst1 (p_bent (h 11) e n t) 0 100))))) (oXM h (fst1 (p_bent (h 11) e n t) 0 100)) := by
  refine loop_up (100) ?_ ?_
  · intro hy
    refine g_iload dX4_bentFor_42 rfl ?_
    refine g_bipush dX4_bentFor_44 bp_99 ?_
    refine g_icmp_gt 95 dX4_bentFor_46 (by decide) (fun c46 => ?_) (fun c46 => ?_)
    · refine g_aload_n dX4_bentFor_95 rfl ?_
      refine g_iload dX4_bentFor_96 rfl ?_
      refine g_callV1i (c_X4_orNone_n) mi_X4_orNone mv_X4_orNone ml_X4_157 dX4_bentFor_98 rfl rfl (by decide) (Nat.le_of_ble_eq_true rfl) (Nat.le_of_ble_eq_true rfl) ?_
      exact g_ireturn dX4_bentFor_101 (by rw [hy, fst_0]; rfl) (by rw [hy, fst_0]; rfl)
    · exact absurd (nI_lt (a := 99) (b := 100) (by decide) (by decide)) c46
  · intro k hk ih hy
    refine g_iload dX4_bentFor_42 rfl ?_
    refine g_bipush dX4_bentFor_44 bp_99 ?_
    refine g_icmp_gt 95 dX4_bentFor_46 (by decide) (fun c46 => ?_) (fun c46 => ?_)
    · exact absurd c46 (nI_nlt (a := 99) (b := k) (by omega) (by decide))
    · refine g_iload dX4_bentFor_49 rfl ?_
      refine g_if_ge 95 dX4_bentFor_51 (by decide) (fun c51 => ?_) (fun c51 => ?_)
      · exact absurd c51 (by decide)
      · refine g_aload_n dX4_bentFor_54 rfl ?_
        refine g_iload_n dX4_bentFor_55 rfl ?_
        refine g_iconst dX4_bentFor_56 ic_0 ?_
        refine g_iload dX4_bentFor_57 rfl ?_
        refine g_callV3v (c_X4_lets (w := 0) he (by decide)) mi_X4_lets mv_X4_lets ml_X4_74 dX4_bentFor_59 rfl rfl (by decide) (Nat.le_of_ble_eq_true rfl) (Nat.le_of_ble_eq_true rfl) ?_
        refine g_h (h2 := setg (setg h 13 (h 11)) 11 (pG (h 11) e 0 (nI k))) (by rw [setg_n _ _ (by decide)]) ?_
        refine g_aload_n dX4_bentFor_62 rfl ?_
        refine g_iload_n dX4_bentFor_63 rfl ?_
        refine g_callV1v (c_X4_goesFor (by rw [setg_s]; exact hI.pG he (w := 0) (by decide) (show k ≤ 99 by omega)) (by omega)) mi_X4_goesFor mv_X4_goesFor ml_X4_114 dX4_bentFor_64 rfl rfl (by decide) (Nat.le_of_ble_eq_true rfl) (Nat.le_of_ble_eq_true rfl) ?_
        refine g_h (h2 := setg (setg h 13 (h 11)) 11 (daysR (pG (h 11) e 0 (nI k)) n)) (by rw [setg_s, setg_2]) ?_
        refine g_aload_n dX4_bentFor_67 rfl ?_
        refine g_iload_n dX4_bentFor_68 rfl ?_
        refine g_iconst dX4_bentFor_69 ic_1 ?_
        refine g_callV2i (c_X4_his (w := 1) he (by decide)) mi_X4_his mv_X4_his ml_X4_44 dX4_bentFor_70 rfl rfl (by decide) (Nat.le_of_ble_eq_true rfl) (Nat.le_of_ble_eq_true rfl) ?_
        refine g_iload_n dX4_bentFor_73 rfl ?_
        refine g_icmp_ne 82 dX4_bentFor_74 (by decide) (fun c74 => ?_) (fun c74 => ?_)
        · refine g_iconst dX4_bentFor_82 ic_m1 ?_
          refine g_istore dX4_bentFor_83 (by decide) rfl ?_
          refine g_aload_n dX4_bentFor_85 rfl ?_
          refine g_callV0v (c_X4_putsBack) mi_X4_putsBack mv_X4_putsBack ml_X4_147 dX4_bentFor_86 rfl rfl (by decide) (Nat.le_of_ble_eq_true rfl) (Nat.le_of_ble_eq_true rfl) ?_
          refine g_h (back _ _) ?_
          refine g_iinc dX4_bentFor_89 rfl (ii_n _) (by decide) rfl ?_
          refine g_goto 42 dX4_bentFor_92 (by decide) ?_
          first
          | exact ih (by rw [hy, fst_n (by simp_all [p_bent, setg_s]; done) (by omega)])
          | (rw [hy, fst_y (by simp_all [p_bent, setg_s]; done) (by omega)]
             exact e_X4_bentFor (by omega) (by omega))
        · refine g_iload dX4_bentFor_77 rfl ?_
          refine g_goto 83 dX4_bentFor_79 (by decide) ?_
          refine g_istore dX4_bentFor_83 (by decide) rfl ?_
          refine g_aload_n dX4_bentFor_85 rfl ?_
          refine g_callV0v (c_X4_putsBack) mi_X4_putsBack mv_X4_putsBack ml_X4_147 dX4_bentFor_86 rfl rfl (by decide) (Nat.le_of_ble_eq_true rfl) (Nat.le_of_ble_eq_true rfl) ?_
          refine g_h (back _ _) ?_
          refine g_iinc dX4_bentFor_89 rfl (ii_n _) (by decide) rfl ?_
          refine g_goto 42 dX4_bentFor_92 (by decide) ?_
          first
          | exact ih (by rw [hy, fst_n (by simp_all [p_bent, setg_s]; done) (by omega)])
          | (rw [hy, fst_y (by simp_all [p_bent, setg_s]; done) (by omega)]
             exact e_X4_bentFor (by omega) (by omega))

set_option maxRecDepth 100000 in
set_option maxHeartbeats 4000000 in
theorem c_X4_bentFor {X : Sc} {h : Hp} (hI : In (h 11)) {g t n : Int32} : Ct X yX4_bentFor cX4_bentFor 6 (some .int) 6 [.ref 28, .int g, .int t, .int n] h (some (.int (oV (f_bentFor (h 11) g t n)))) (hM h (f_bentFor (h 11) g t n)) := by
  refine ⟨rfl, ?_⟩
  refine g_aload_n dX4_bentFor_0 rfl ?_
  refine g_iload_n dX4_bentFor_1 rfl ?_
  refine g_callV1i (c_X4_isGuest hI) mi_X4_isGuest mv_X4_isGuest ml_X4_86 dX4_bentFor_2 rfl rfl (by decide) (Nat.le_of_ble_eq_true rfl) (Nat.le_of_ble_eq_true rfl) ?_
  refine g_if_eq 25 dX4_bentFor_5 (by decide) (fun c5 => ?_) (fun c5 => ?_)
  · refine g_aload_n dX4_bentFor_25 rfl ?_
    refine g_ldc dX4_bentFor_26 lc_X4_34 ?_
    refine g_callV1i (c_X4_finds 0 (by decide) (by decide)) mi_X4_finds mv_X4_finds ml_X4_36 dX4_bentFor_28 rfl rfl (by decide) (Nat.le_of_ble_eq_true rfl) (Nat.le_of_ble_eq_true rfl) ?_
    exact g_ireturn dX4_bentFor_31 (by simp_all [f_bentFor, oV, fvl_0, fvl_1, fvl_2, fvl_3, fvl_4, fvl_5, fvl_6, bI_0]) (hM_0 _ (by simp_all [f_bentFor, bI_0]))
  · refine g_iload_n dX4_bentFor_8 rfl ?_
    refine g_callS1i (c_X4_isTown) mi_X4_isTown ms_X4_isTown ml_X4_66 dX4_bentFor_9 (by decide) (Nat.le_of_ble_eq_true rfl) (Nat.le_of_ble_eq_true rfl) ?_
    refine g_if_eq 25 dX4_bentFor_12 (by decide) (fun c12 => ?_) (fun c12 => ?_)
    · refine g_aload_n dX4_bentFor_25 rfl ?_
      refine g_ldc dX4_bentFor_26 lc_X4_34 ?_
      refine g_callV1i (c_X4_finds 0 (by decide) (by decide)) mi_X4_finds mv_X4_finds ml_X4_36 dX4_bentFor_28 rfl rfl (by decide) (Nat.le_of_ble_eq_true rfl) (Nat.le_of_ble_eq_true rfl) ?_
      exact g_ireturn dX4_bentFor_31 (by simp_all [f_bentFor, oV, fvl_0, fvl_1, fvl_2, fvl_3, fvl_4, fvl_5, fvl_6, bI_0]) (hM_0 _ (by simp_all [f_bentFor, bI_0]))
    · refine g_iload_n dX4_bentFor_15 rfl ?_
      refine g_iconst dX4_bentFor_16 ic_0 ?_
      refine g_bipush dX4_bentFor_17 bp_60 ?_
      refine g_callS3i (c_X4_in) mi_X4_in ms_X4_in ml_X4_40 dX4_bentFor_19 (by decide) (Nat.le_of_ble_eq_true rfl) (Nat.le_of_ble_eq_true rfl) ?_
      refine g_if_ne 32 dX4_bentFor_22 (by decide) (fun c22 => ?_) (fun c22 => ?_)
      · obtain ⟨e, le, he, te, rfl⟩ := isG_of2 hI (nb0 c5)
        obtain ⟨j, hj, tj, rfl⟩ := inB_of 60 (by decide) (nb0 c22)
        refine g_aload_n dX4_bentFor_32 rfl ?_
        refine g_callV0v (c_X4_thinks) mi_X4_thinks mv_X4_thinks ml_X4_144 dX4_bentFor_33 rfl rfl (by decide) (Nat.le_of_ble_eq_true rfl) (Nat.le_of_ble_eq_true rfl) ?_
        refine g_iconst dX4_bentFor_36 ic_m1 ?_
        refine g_istore dX4_bentFor_37 (by decide) rfl ?_
        refine g_iconst dX4_bentFor_39 ic_0 ?_
        refine g_istore dX4_bentFor_40 (by decide) rfl ?_
        have ef : f_bentFor (h 11) (nI e) t (nI j) = oF (h 11) (fst1 (p_bent (h 11) e j t) 0 100) := by simp_all [f_bentFor, bI_0]
        rw [← hM_x h _ ef, ef]
        exact l_X4_bentFor hI he hj 0 (by decide) rfl
      · refine g_aload_n dX4_bentFor_25 rfl ?_
        refine g_ldc dX4_bentFor_26 lc_X4_34 ?_
        refine g_callV1i (c_X4_finds 0 (by decide) (by decide)) mi_X4_finds mv_X4_finds ml_X4_36 dX4_bentFor_28 rfl rfl (by decide) (Nat.le_of_ble_eq_true rfl) (Nat.le_of_ble_eq_true rfl) ?_
        exact g_ireturn dX4_bentFor_31 (by simp_all [f_bentFor, oV, fvl_0, fvl_1, fvl_2, fvl_3, fvl_4, fvl_5, fvl_6, bI_0]) (hM_0 _ (by simp_all [f_bentFor, bI_0]))

