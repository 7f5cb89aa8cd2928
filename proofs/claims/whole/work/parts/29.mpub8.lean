/-! THE REFERENCE'S COPY, the loop -/
theorem cp_ok {sh : Rw} (hS : InS sh) {s a t b n : Int32} (h : ncp (f_copy sh s a t b n) = 0) : ∃ j i x z y, j ≤ 3 ∧ i ≤ 3 ∧ s = nI j ∧ t = nI i ∧ a = nI x ∧ b = nI z ∧ n = nI y ∧ x + y ≤ 40 ∧ z + y ≤ 40 ∧ f_copy sh s a t b n = .inr (nI y, cpyR sh (8 + 40 * j + x) (8 + 40 * i + z) y) := by
  by_cases hP : (inB s 0 3 && inB t 0 3) = true
  · by_cases m0 : sB sh (tn s) = 0 ∨ sB sh (tn t) = 0
    · rw [f_copy, if_pos hP, if_pos m0] at h; exact absurd h (by decide)
    · by_cases m1 : sB sh (tn s) = sB sh (tn t)
      · by_cases m2 : (rngB (sL sh (tn s)) a n && rngB (sL sh (tn t)) b n) = true
        · have hP2 := hP
          have m22 := m2
          rw [Bool.and_eq_true] at hP2 m22
          obtain ⟨j, hj, tj, rfl⟩ := inB_of 3 (by decide) hP2.1
          obtain ⟨i, hi, ti, rfl⟩ := inB_of 3 (by decide) hP2.2
          rw [tj, ti] at m22
          obtain ⟨x, y, tx, ty, rfl, rfl, l1, -⟩ := rng_of hS (by omega) m22.1
          obtain ⟨z, y2, tz, ty2, rfl, ey, l2, -⟩ := rng_of hS (by omega) m22.2
          have e2 : y2 = y := by rw [← ty2, ← ey, ty]
          subst e2
          exact ⟨j, i, x, z, y2, hj, hi, rfl, rfl, rfl, rfl, rfl, l1, l2, by rw [f_copy, if_pos hP, if_neg m0, if_pos m1, if_pos m2, tj, ti, tx, tz, ty2]⟩
        · rw [f_copy, if_pos hP, if_neg m0, if_pos m1, if_neg m2] at h; exact absurd h (by decide)
      · rw [f_copy, if_pos hP, if_neg m0, if_neg m1] at h; exact absurd h (by decide)
  · rw [f_copy, if_neg hP] at h; exact absurd h (by decide)
theorem cpA_s {sh : Rw} {so dO k : Nat} (h : ¬ (dO ≤ so + k ∧ so + k < dO + k)) : upd (cpyR sh so dO k) (dO + k) (cpyR sh so dO k (so + k)) = cpyR sh so dO (k + 1) := by
  funext q
  unfold upd cpyR
  rw [if_neg h]
  by_cases e : q = dO + k
  · subst e; rw [if_pos rfl, if_pos (by omega), show so + (dO + k - dO) = so + k by omega]
  · rw [if_neg e]
    by_cases c : dO ≤ q ∧ q < dO + k
    · rw [if_pos c, if_pos (by omega)]
    · rw [if_neg c, if_neg (by omega)]
def cpyD (sh : Rw) (so dO n k : Nat) : Rw := fun q => if dO + (n - k) ≤ q ∧ q < dO + n then sh (so + (q - dO)) else sh q
theorem cpD_0 (sh : Rw) (so dO n : Nat) : cpyD sh so dO n 0 = sh := by
  funext q
  unfold cpyD
  rw [if_neg (by omega)]
theorem cpA_0 (sh : Rw) (so dO : Nat) : cpyR sh so dO 0 = sh := by
  funext q
  unfold cpyR
  rw [if_neg (by omega)]
theorem cpD_n (sh : Rw) (so dO n : Nat) : cpyD sh so dO n n = cpyR sh so dO n := by
  funext q
  unfold cpyD cpyR
  rw [show dO + (n - n) = dO by omega]
theorem cpD_s {sh : Rw} {so dO n k : Nat} (hk : k < n) (h : ¬ (dO + (n - k) ≤ so + (n - 1 - k) ∧ so + (n - 1 - k) < dO + n)) : upd (cpyD sh so dO n k) (dO + (n - 1 - k)) (cpyD sh so dO n k (so + (n - 1 - k))) = cpyD sh so dO n (k + 1) := by
  funext q
  unfold upd cpyD
  rw [if_neg h]
  by_cases e : q = dO + (n - 1 - k)
  · subst e; rw [if_pos rfl, if_pos (by omega), show so + (dO + (n - 1 - k) - dO) = so + (n - 1 - k) by omega]
  · rw [if_neg e]
    by_cases c : dO + (n - k) ≤ q ∧ q < dO + n
    · rw [if_pos c, if_pos (by omega)]
    · rw [if_neg c, if_neg (by omega)]
theorem jx3 (i z k : Nat) : 40 * nI i + nI z + nI k = nI (40 * i + z + k) := by rw [jx40, nI_add]
theorem n1k {y k : Nat} (h : k < y) : nI y - 1 - nI k = nI (y - 1 - k) := by
  obtain ⟨x, rfl⟩ : ∃ x, y = x + 1 := ⟨y - 1, by omega⟩
  rw [nI_pred, pk_sub (by omega), show x + 1 - 1 - k = x - k by omega]
set_option maxRecDepth 100000 in
set_option maxHeartbeats 4000000 in
theorem a_X4_copy {X : Sc} {h : Hp} {j i x z y : Nat} (hj : j ≤ 3) (hi : i ≤ 3) (l1 : x + y ≤ 40) (l2 : z + y ≤ 40) (hz : z ≤ x) : ∀ k, k ≤ y → Go X RX4 cX4_copy 9 3 28 [.ref 28, .int (nI j), .int (nI x), .int (nI i), .int (nI z), .int (nI y), .int 0, .int (nI k), .null] [] (setg h 16 (cpyR (h 16) (8 + 40 * j + x) (8 + 40 * i + z) k)) (some (.int (nI y))) (setg h 16 (cpyR (h 16) (8 + 40 * j + x) (8 + 40 * i + z) y)) := by
  refine loop_up (y) ?_ ?_
  · refine g_iload dX4_copy_28 rfl ?_
    refine g_iload dX4_copy_30 rfl ?_
    refine g_icmp_ge 90 dX4_copy_32 (by decide) (fun c32 => ?_) (fun c32 => ?_)
    · refine g_iload dX4_copy_90 rfl ?_
      exact g_ireturn dX4_copy_92 rfl rfl
    · exact (lp_yes ((rfl : nI y = nI y)) (by omega) c32).elim
  · intro k hk ih
    refine g_iload dX4_copy_28 rfl ?_
    refine g_iload dX4_copy_30 rfl ?_
    refine g_icmp_ge 90 dX4_copy_32 (by decide) (fun c32 => ?_) (fun c32 => ?_)
    · exact (lp_no ((rfl : nI y = nI y)) (by omega) hk c32).elim
    · refine g_iload_n dX4_copy_35 rfl ?_
      refine g_iload dX4_copy_36 rfl ?_
      refine g_icmp_ge 51 dX4_copy_38 (by decide) (fun c38 => ?_) (fun c38 => ?_)
      · refine g_iload dX4_copy_51 rfl ?_
        refine g_istore dX4_copy_53 (by decide) rfl ?_
        refine g_aload_n dX4_copy_55 rfl ?_
        refine g_getR dX4_copy_56 fl_X4_28 rfl rfl ?_
        refine g_bipush dX4_copy_59 bp_40 ?_
        refine g_iload_n dX4_copy_61 rfl ?_
        refine g_imul dX4_copy_62 ?_
        refine g_iload dX4_copy_63 rfl ?_
        refine g_iadd dX4_copy_65 ?_
        refine g_iload dX4_copy_66 rfl ?_
        refine g_iadd dX4_copy_68 ?_
        refine g_aload_n dX4_copy_69 rfl ?_
        refine g_getR dX4_copy_70 fl_X4_28 rfl rfl ?_
        refine g_bipush dX4_copy_73 bp_40 ?_
        refine g_iload_n dX4_copy_75 rfl ?_
        refine g_imul dX4_copy_76 ?_
        refine g_iload_n dX4_copy_77 rfl ?_
        refine g_iadd dX4_copy_78 ?_
        refine g_iload dX4_copy_79 rfl ?_
        refine g_iadd dX4_copy_81 ?_
        refine g_iald (40 * j + x + k) dX4_copy_82 rfl (jx3 _ _ _) (by omega) ?_
        refine g_iast (40 * i + z + k) dX4_copy_83 rfl (jx3 _ _ _) (by omega) ?_
        refine g_iinc dX4_copy_84 rfl (ii_n _) (by decide) rfl ?_
        refine g_goto 28 dX4_copy_87 (by decide) ?_
        refine g_mask [true, true, true, true, true, true, true, true, false] ?_
        exact g_h (by rw [up_setg, setg_s, setg_2, show 8 + (40 * j + x + k) = (8 + 40 * j + x) + k by omega, show 8 + (40 * i + z + k) = (8 + 40 * i + z) + k by omega, cpA_s (by omega)]) ih
      · exact absurd (nI_le hz (by omega)) c38

set_option maxRecDepth 100000 in
set_option maxHeartbeats 4000000 in
theorem d_X4_copy {X : Sc} {h : Hp} {j i x z y : Nat} (hj : j ≤ 3) (hi : i ≤ 3) (l1 : x + y ≤ 40) (l2 : z + y ≤ 40) (hz : x < z) : ∀ k, k ≤ y → Go X RX4 cX4_copy 9 3 28 [.ref 28, .int (nI j), .int (nI x), .int (nI i), .int (nI z), .int (nI y), .int 0, .int (nI k), .null] [] (setg h 16 (cpyD (h 16) (8 + 40 * j + x) (8 + 40 * i + z) y k)) (some (.int (nI y))) (setg h 16 (cpyR (h 16) (8 + 40 * j + x) (8 + 40 * i + z) y)) := by
  refine loop_up (y) ?_ ?_
  · refine g_iload dX4_copy_28 rfl ?_
    refine g_iload dX4_copy_30 rfl ?_
    refine g_icmp_ge 90 dX4_copy_32 (by decide) (fun c32 => ?_) (fun c32 => ?_)
    · refine g_iload dX4_copy_90 rfl ?_
      exact g_ireturn dX4_copy_92 rfl (by rw [cpD_n])
    · exact (lp_yes ((rfl : nI y = nI y)) (by omega) c32).elim
  · intro k hk ih
    refine g_iload dX4_copy_28 rfl ?_
    refine g_iload dX4_copy_30 rfl ?_
    refine g_icmp_ge 90 dX4_copy_32 (by decide) (fun c32 => ?_) (fun c32 => ?_)
    · exact (lp_no ((rfl : nI y = nI y)) (by omega) hk c32).elim
    · refine g_iload_n dX4_copy_35 rfl ?_
      refine g_iload dX4_copy_36 rfl ?_
      refine g_icmp_ge 51 dX4_copy_38 (by decide) (fun c38 => ?_) (fun c38 => ?_)
      · exact absurd c38 (nI_ge hz (by omega))
      · refine g_iload dX4_copy_41 rfl ?_
        refine g_iconst dX4_copy_43 ic_1 ?_
        refine g_isub dX4_copy_44 ?_
        refine g_iload dX4_copy_45 rfl ?_
        refine g_isub dX4_copy_47 ?_
        refine g_st (st2 := [.int (nI (y - 1 - k))]) (by rw [n1k hk]) ?_
        refine g_goto 53 dX4_copy_48 (by decide) ?_
        refine g_istore dX4_copy_53 (by decide) rfl ?_
        refine g_aload_n dX4_copy_55 rfl ?_
        refine g_getR dX4_copy_56 fl_X4_28 rfl rfl ?_
        refine g_bipush dX4_copy_59 bp_40 ?_
        refine g_iload_n dX4_copy_61 rfl ?_
        refine g_imul dX4_copy_62 ?_
        refine g_iload dX4_copy_63 rfl ?_
        refine g_iadd dX4_copy_65 ?_
        refine g_iload dX4_copy_66 rfl ?_
        refine g_iadd dX4_copy_68 ?_
        refine g_aload_n dX4_copy_69 rfl ?_
        refine g_getR dX4_copy_70 fl_X4_28 rfl rfl ?_
        refine g_bipush dX4_copy_73 bp_40 ?_
        refine g_iload_n dX4_copy_75 rfl ?_
        refine g_imul dX4_copy_76 ?_
        refine g_iload_n dX4_copy_77 rfl ?_
        refine g_iadd dX4_copy_78 ?_
        refine g_iload dX4_copy_79 rfl ?_
        refine g_iadd dX4_copy_81 ?_
        refine g_iald (40 * j + x + (y - 1 - k)) dX4_copy_82 rfl (jx3 _ _ _) (by omega) ?_
        refine g_iast (40 * i + z + (y - 1 - k)) dX4_copy_83 rfl (jx3 _ _ _) (by omega) ?_
        refine g_iinc dX4_copy_84 rfl (ii_n _) (by decide) rfl ?_
        refine g_goto 28 dX4_copy_87 (by decide) ?_
        refine g_mask [true, true, true, true, true, true, true, true, false] ?_
        exact g_h (by rw [up_setg, setg_s, setg_2, show 8 + (40 * j + x + (y - 1 - k)) = (8 + 40 * j + x) + (y - 1 - k) by omega, show 8 + (40 * i + z + (y - 1 - k)) = (8 + 40 * i + z) + (y - 1 - k) by omega, cpD_s hk (by omega)]) ih

set_option maxRecDepth 100000 in
set_option maxHeartbeats 4000000 in
theorem c_X4_copy {X : Sc} {h : Hp} (hI : In (h 11)) (hS : InS (h 16)) {s a t b n : Int32} : Ct X yX4_copy cX4_copy 9 (some .int) 3 [.ref 28, .int s, .int a, .int t, .int b, .int n] h (some (.int (oV (f_copy (h 16) s a t b n)))) (oG 16 15 h (f_copy (h 16) s a t b n)) := by
  refine ⟨rfl, ?_⟩
  refine g_aload_n dX4_copy_0 rfl ?_
  refine g_iload_n dX4_copy_1 rfl ?_
  refine g_iload_n dX4_copy_2 rfl ?_
  refine g_iload_n dX4_copy_3 rfl ?_
  refine g_iload dX4_copy_4 rfl ?_
  refine g_iload dX4_copy_6 rfl ?_
  refine g_callV5i (c_X4_notCopied hS) mi_X4_notCopied mv_X4_notCopied ml_X4_245 dX4_copy_8 rfl rfl (by decide) (Nat.le_of_ble_eq_true rfl) (Nat.le_of_ble_eq_true rfl) ?_
  refine g_istore dX4_copy_11 (by decide) rfl ?_
  refine g_iload dX4_copy_13 rfl ?_
  refine g_if_eq 25 dX4_copy_15 (by decide) (fun c15 => ?_) (fun c15 => ?_)
  · obtain ⟨j, i, x, z, y, hj, hi, rfl, rfl, rfl, rfl, rfl, l1, l2, ef⟩ := cp_ok hS c15
    refine g_iconst dX4_copy_25 ic_0 ?_
    refine g_istore dX4_copy_26 (by decide) rfl ?_
    rw [ef]
    simp only [oV, oG]
    rcases Nat.lt_or_ge x z with hz | hz
    · exact g_h (by rw [cpD_0, setg_id]) (d_X4_copy hj hi l1 l2 hz 0 (Nat.zero_le _))
    · exact g_h (by rw [cpA_0, setg_id]) (a_X4_copy hj hi l1 l2 hz 0 (Nat.zero_le _))
  · obtain ⟨q, hq, ef, ev, ek⟩ := cp_k c15
    refine g_aload_n dX4_copy_18 rfl ?_
    refine g_iload dX4_copy_19 rfl ?_
    refine g_callV1i (c_X4_finds q hq ek) mi_X4_finds mv_X4_finds ml_X4_36 dX4_copy_21 rfl rfl (by decide) (Nat.le_of_ble_eq_true rfl) (Nat.le_of_ble_eq_true rfl) ?_
    exact g_ireturn dX4_copy_24 (by rw [ev, ef]; rfl) (by rw [ef]; rfl)

