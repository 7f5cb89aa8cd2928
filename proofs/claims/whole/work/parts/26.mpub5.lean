/-! THE REFERENCE'S CALLS, fifth part -/
def feedM (b : Int32) : Nat → Rw → Rw
  | 0, t => t
  | n + 1, t => feedM b n (app t (b >>> (8 * nI n &&& 31) &&& 255))
def fM_feed (t : Rw) (b n : Int32) : Oc := if inB n 1 4 then (if t 0 + n ≤ 120 then .inr (feedM b (tn n) t 0, feedM b (tn n) t) else .inl 1) else .inl 0
set_option maxRecDepth 100000 in
set_option maxHeartbeats 4000000 in
theorem l_X4_feed {X : Sc} {b z : Int32} : ∀ (n : Nat) (h : Hp), n ≤ 4 → InT (h 14) → tpL (h 14) + n ≤ 120 → Go X RX4 cX4_feed 4 2 38 [.ref 28, .int b, .int z, .int (nI n - 1)] [] h (some (.int (feedM b n (h 14) 0))) (setg h 14 (feedM b n (h 14))) := by
  intro n
  induction n with
  | zero =>
    intro h h4 hT hl
    refine g_iload_n dX4_feed_38 rfl ?_
    refine g_if_lt 77 dX4_feed_39 (by decide) (fun c42 => ?_) (fun c42 => ?_)
    · refine g_aload_n dX4_feed_77 rfl ?_
      refine g_getI dX4_feed_78 fl_X4_184 rfl rfl ?_
      exact g_ireturn dX4_feed_81 rfl (setg_id h 14).symm
    · exact absurd (by decide) c42
  | succ n ih =>
    intro h h4 hT hl
    refine g_iload_n dX4_feed_38 rfl ?_
    have e1 : nI (n + 1) - 1 = nI n := nI_pred n
    refine g_if_lt 77 dX4_feed_39 (by decide) (fun c42 => ?_) (fun c42 => ?_)
    · exact absurd c42 (by rw [e1]; exact nI_pos (by omega))
    · refine g_lv (lv2 := [.ref 28, .int b, .int z, .int (nI n)]) (by rw [e1]) ?_
      refine g_aload_n dX4_feed_42 rfl ?_
      refine g_getR dX4_feed_43 fl_X4_31 rfl rfl ?_
      refine g_aload_n dX4_feed_46 rfl ?_
      refine g_getI dX4_feed_47 fl_X4_184 rfl rfl ?_
      refine g_st (st2 := [.int (nI (tpL (h 14))), .ref 36]) (by rw [← hT.2]) ?_
      refine g_iload_n dX4_feed_50 rfl ?_
      refine g_bipush dX4_feed_51 bp_8 ?_
      refine g_iload_n dX4_feed_53 rfl ?_
      refine g_imul dX4_feed_54 ?_
      refine g_ishr dX4_feed_55 ?_
      refine g_sipush dX4_feed_56 sp_255 ?_
      refine g_iand dX4_feed_59 ?_
      refine g_iast (tpL (h 14)) dX4_feed_60 rfl rfl (by omega) ?_
      refine g_aload_n dX4_feed_61 rfl ?_
      refine g_dup dX4_feed_62 rfl ?_
      refine g_getI dX4_feed_63 fl_X4_184 rfl rfl ?_
      refine g_iconst dX4_feed_66 ic_1 ?_
      refine g_iadd dX4_feed_67 ?_
      refine g_putI dX4_feed_68 fl_X4_184 fp_4_9 rfl rfl ?_
      refine g_h (h2 := setg h 14 (app (h 14) (b >>> (8 * nI n &&& 31) &&& 255))) (by rw [up_setg, up_setg, setg_s, setg_2, upd_n _ _ (by omega)]; rfl) ?_
      refine g_iinc dX4_feed_71 rfl (ii_m1 _) (by decide) rfl ?_
      refine g_goto 38 dX4_feed_74 (by decide) ?_
      have hA := app_L hT (b >>> (8 * nI n &&& 31) &&& 255) (by omega)
      have q := ih (setg h 14 (app (h 14) (b >>> (8 * nI n &&& 31) &&& 255))) (by omega) (by rw [setg_s]; exact hA.1) (by rw [setg_s, hA.2]; omega)
      rw [setg_s, setg_2] at q
      exact g_lv (by rw [Int32.sub_eq_add_neg]; rfl) q
set_option maxRecDepth 100000 in
set_option maxHeartbeats 4000000 in
theorem c_X4_feed {X : Sc} {h : Hp} (hT : InT (h 14)) {b n : Int32} : Ct X yX4_feed cX4_feed 4 (some .int) 2 [.ref 28, .int b, .int n] h (some (.int (oV (fM_feed (h 14) b n)))) (oG 14 15 h (fM_feed (h 14) b n)) := by
  refine ⟨rfl, ?_⟩
  refine g_iload_n dX4_feed_0 rfl ?_
  refine g_iconst dX4_feed_1 ic_1 ?_
  refine g_iconst dX4_feed_2 ic_4 ?_
  refine g_callS3i (c_X4_in) mi_X4_in ms_X4_in ml_X4_40 dX4_feed_3 (by decide) (Nat.le_of_ble_eq_true rfl) (Nat.le_of_ble_eq_true rfl) ?_
  refine g_if_ne 16 dX4_feed_6 (by decide) (fun c6 => ?_) (fun c6 => ?_)
  · obtain ⟨j, l1, hj, tj, rfl⟩ := inB_of1 4 (by decide) (nb0 c6)
    refine g_aload_n dX4_feed_16 rfl ?_
    refine g_getI dX4_feed_17 fl_X4_184 rfl rfl ?_
    refine g_iload_n dX4_feed_20 rfl ?_
    refine g_iadd dX4_feed_21 ?_
    refine g_bipush dX4_feed_22 bp_120 ?_
    refine g_icmp_le 34 dX4_feed_24 (by decide) (fun c24 => ?_) (fun c24 => ?_)
    · refine g_iload_n dX4_feed_34 rfl ?_
      refine g_iconst dX4_feed_35 ic_1 ?_
      refine g_isub dX4_feed_36 ?_
      refine g_istore_n dX4_feed_37 (by decide) rfl ?_
      have hl : tpL (h 14) + j ≤ 120 := by
        have q : nI (tpL (h 14) + j) ≤ 120 := by rw [← nI_add, ← hT.2]; exact c24
        have hb := hT.1
        exact (nI_leI (a := tpL (h 14) + j) (b := 120) (by omega) (by decide)).mp q
      rw [fM_feed, if_pos (nb0 c6), if_pos c24, tj]
      simp only [oV, oG]
      exact l_X4_feed j h (by omega) hT hl
    · refine g_aload_n dX4_feed_27 rfl ?_
      refine g_ldc dX4_feed_28 lc_X4_69 ?_
      refine g_callV1i (c_X4_finds 1 (by decide) (by decide)) mi_X4_finds mv_X4_finds ml_X4_36 dX4_feed_30 rfl rfl (by decide) (Nat.le_of_ble_eq_true rfl) (Nat.le_of_ble_eq_true rfl) ?_
      exact g_ireturn dX4_feed_33 (by rw [fM_feed, if_pos (nb0 c6), if_neg c24]; rfl) (by rw [fM_feed, if_pos (nb0 c6), if_neg c24]; rfl)
  · refine g_aload_n dX4_feed_9 rfl ?_
    refine g_ldc dX4_feed_10 lc_X4_34 ?_
    refine g_callV1i (c_X4_finds 0 (by decide) (by decide)) mi_X4_finds mv_X4_finds ml_X4_36 dX4_feed_12 rfl rfl (by decide) (Nat.le_of_ble_eq_true rfl) (Nat.le_of_ble_eq_true rfl) ?_
    exact g_ireturn dX4_feed_15 (by simp_all [fM_feed, oV, fvl_0, bI_0]) (by simp_all [fM_feed, oG, bI_0])

theorem mn2_le (a b : Nat) : mn2 a b ≤ a ∧ mn2 a b ≤ b ∧ (mn2 a b = a ∨ mn2 a b = b) := by
  unfold mn2
  split
  · exact ⟨by omega, by omega, Or.inr rfl⟩
  · exact ⟨by omega, by omega, Or.inl rfl⟩
theorem ld_G (m sh : Rw) (s : Nat) : ∀ k, k ≤ 6 → ldR m sh s k 3 = m 3
  | 0, _ => rfl
  | k + 1, h => by
    show pG (ldR m sh s k) k 0 (sN sh s k) 3 = m 3
    unfold pG
    rw [upd_n _ _ (by omega)]
    exact ld_G m sh s k (by omega)
set_option maxRecDepth 100000 in
set_option maxHeartbeats 4000000 in
theorem l_X4_load {X : Sc} {h : Hp} (hI : In (h 11)) (hS : InS (h 16)) {j : Nat} (hj : j ≤ 3) {z : Int32} : ∀ k, k ≤ mn2 (nL2 (h 16) j) (nG (h 11)) → fst1 (p_load (h 16) j) 0 (mn2 (nL2 (h 16) j) (nG (h 11))) = fst1 (p_load (h 16) j) k (mn2 (nL2 (h 16) j) (nG (h 11)) - k) → Go X RX4 cX4_load 4 3 18 [.ref 28, .int (nI j), .int z, .int (nI k)] [] (setg h 11 (ldR (h 11) (h 16) j k)) (some (.int (nI (stp (p_load (h 16) j) (mn2 (nL2 (h 16) j) (nG (h 11))))))) (setg h 11 (ldR (h 11) (h 16) j (stp (p_load (h 16) j) (mn2 (nL2 (h 16) j) (nG (h 11)))))) := by
  have hm := mn2_le (nL2 (h 16) j) (nG (h 11))
  have hL := (hS j (by omega)).2.1
  have hG := hI.nG.1
  refine loop_up (mn2 (nL2 (h 16) j) (nG (h 11))) ?_ ?_
  · intro hy
    refine g_iload_n dX4_load_18 rfl ?_
    refine g_aload_n dX4_load_19 rfl ?_
    refine g_getR dX4_load_20 fl_X4_25 rfl rfl ?_
    refine g_iload_n dX4_load_23 rfl ?_
    refine g_iald j dX4_load_24 rfl rfl (by omega) ?_
    refine g_st (by rw [setg_n _ _ (by decide), show h 16 (4 + j) = nI (nL2 (h 16) j) from (hS j (by omega)).2.2]) ?_
    refine g_icmp_ge 81 dX4_load_25 (by decide) (fun c25 => ?_) (fun c25 => ?_)
    · refine g_iload_n dX4_load_81 rfl ?_
      exact g_ireturn dX4_load_82 (by rw [stp, hy, fst_0]) (by rw [stp, hy, fst_0])
    · refine g_iload_n dX4_load_28 rfl ?_
      refine g_aload_n dX4_load_29 rfl ?_
      refine g_getR dX4_load_30 fl_X4_9 rfl rfl ?_
      refine g_iconst dX4_load_33 ic_3 ?_
      refine g_iald0 3 dX4_load_34 rfl rfl (by decide) ?_
      refine g_st (by rw [setg_s, ld_G _ _ _ _ (by omega), hI.nG.2]) ?_
      refine g_icmp_ge 81 dX4_load_35 (by decide) (fun c35 => ?_) (fun c35 => ?_)
      · refine g_iload_n dX4_load_81 rfl ?_
        exact g_ireturn dX4_load_82 (by rw [stp, hy, fst_0]) (by rw [stp, hy, fst_0])
      · rcases hm.2.2 with e | e
        · exact absurd (nI_le (Nat.le_of_eq e.symm) (by omega)) c25
        · exact absurd (nI_le (Nat.le_of_eq e.symm) (by omega)) c35
  · intro k hk ih hy
    refine g_iload_n dX4_load_18 rfl ?_
    refine g_aload_n dX4_load_19 rfl ?_
    refine g_getR dX4_load_20 fl_X4_25 rfl rfl ?_
    refine g_iload_n dX4_load_23 rfl ?_
    refine g_iald j dX4_load_24 rfl rfl (by omega) ?_
    refine g_st (by rw [setg_n _ _ (by decide), show h 16 (4 + j) = nI (nL2 (h 16) j) from (hS j (by omega)).2.2]) ?_
    refine g_icmp_ge 81 dX4_load_25 (by decide) (fun c25 => ?_) (fun c25 => ?_)
    · exact absurd c25 (nI_ge (by omega) (by omega))
    · refine g_iload_n dX4_load_28 rfl ?_
      refine g_aload_n dX4_load_29 rfl ?_
      refine g_getR dX4_load_30 fl_X4_9 rfl rfl ?_
      refine g_iconst dX4_load_33 ic_3 ?_
      refine g_iald0 3 dX4_load_34 rfl rfl (by decide) ?_
      refine g_st (by rw [setg_s, ld_G _ _ _ _ (by omega), hI.nG.2]) ?_
      refine g_icmp_ge 81 dX4_load_35 (by decide) (fun c35 => ?_) (fun c35 => ?_)
      · exact absurd c35 (nI_ge (by omega) (by omega))
      · refine g_aload_n dX4_load_38 rfl ?_
        refine g_getR dX4_load_39 fl_X4_28 rfl rfl ?_
        refine g_bipush dX4_load_42 bp_40 ?_
        refine g_iload_n dX4_load_44 rfl ?_
        refine g_imul dX4_load_45 ?_
        refine g_iload_n dX4_load_46 rfl ?_
        refine g_iadd dX4_load_47 ?_
        refine g_iald (40 * j + k) dX4_load_48 rfl (jx40 _ _) (by omega) ?_
        refine g_st (st2 := [.int (sN (h 16) j k)]) (by rw [setg_n _ _ (by decide), show 8 + (40 * j + k) = 8 + 40 * j + k by omega]; rfl) ?_
        refine g_iconst dX4_load_49 ic_0 ?_
        refine g_bipush dX4_load_50 bp_99 ?_
        refine g_callS3i (c_X4_in) mi_X4_in ms_X4_in ml_X4_40 dX4_load_52 (by decide) (Nat.le_of_ble_eq_true rfl) (Nat.le_of_ble_eq_true rfl) ?_
        refine g_if_eq 81 dX4_load_55 (by decide) (fun c55 => ?_) (fun c55 => ?_)
        · refine g_iload_n dX4_load_81 rfl ?_
          exact g_ireturn dX4_load_82 (by rw [stp, hy, fst_y (by simp_all [p_load, bI_0]) (by omega)]) (by rw [stp, hy, fst_y (by simp_all [p_load, bI_0]) (by omega)])
        · refine g_aload_n dX4_load_58 rfl ?_
          refine g_iload_n dX4_load_59 rfl ?_
          refine g_iconst dX4_load_60 ic_0 ?_
          refine g_aload_n dX4_load_61 rfl ?_
          refine g_getR dX4_load_62 fl_X4_28 rfl rfl ?_
          refine g_bipush dX4_load_65 bp_40 ?_
          refine g_iload_n dX4_load_67 rfl ?_
          refine g_imul dX4_load_68 ?_
          refine g_iload_n dX4_load_69 rfl ?_
          refine g_iadd dX4_load_70 ?_
          refine g_iald (40 * j + k) dX4_load_71 rfl (jx40 _ _) (by omega) ?_
          refine g_st (st2 := [.int (sN (h 16) j k), .int 0, .int (nI k), .ref 28]) (by rw [setg_n _ _ (by decide), show 8 + (40 * j + k) = 8 + 40 * j + k by omega]; rfl) ?_
          refine g_callV3v (c_X4_lets (w := 0) (by omega) (by decide)) mi_X4_lets mv_X4_lets ml_X4_74 dX4_load_72 rfl rfl (by decide) (Nat.le_of_ble_eq_true rfl) (Nat.le_of_ble_eq_true rfl) ?_
          refine g_iinc dX4_load_75 rfl (ii_n _) (by decide) rfl ?_
          refine g_goto 18 dX4_load_78 (by decide) ?_
          exact g_h (by rw [setg_s, setg_2]; rfl) (ih (by rw [hy, fst_n (by simp_all [p_load, bI_0]) (by omega)]))

set_option maxRecDepth 100000 in
set_option maxHeartbeats 4000000 in
theorem c_X4_load {X : Sc} {h : Hp} (hI : In (h 11)) (hS : InS (h 16)) {s : Int32} : Ct X yX4_load cX4_load 4 (some .int) 3 [.ref 28, .int s] h (some (.int (oV (f_load (h 11) (h 16) s)))) (oG 11 15 h (f_load (h 11) (h 16) s)) := by
  refine ⟨rfl, ?_⟩
  refine g_aload_n dX4_load_0 rfl ?_
  refine g_iload_n dX4_load_1 rfl ?_
  refine g_callV1i (c_X4_notThere) mi_X4_notThere mv_X4_notThere ml_X4_174 dX4_load_2 rfl rfl (by decide) (Nat.le_of_ble_eq_true rfl) (Nat.le_of_ble_eq_true rfl) ?_
  refine g_istore_n dX4_load_5 (by decide) rfl ?_
  refine g_iload_n dX4_load_6 rfl ?_
  refine g_if_eq 16 dX4_load_7 (by decide) (fun c7 => ?_) (fun c7 => ?_)
  · have tz := trb_0 c7
    obtain ⟨j, hj, tj, rfl⟩ := inB_of 3 (by decide) tz.1
    refine g_iconst dX4_load_16 ic_0 ?_
    refine g_istore_n dX4_load_17 (by decide) rfl ?_
    rw [f_load, onS_ok tz, tj]
    simp only [oV, oG]
    exact g_h (setg_id h 11).symm (l_X4_load hI hS hj 0 (Nat.zero_le _) rfl)
  · refine g_aload_n dX4_load_10 rfl ?_
    refine g_iload_n dX4_load_11 rfl ?_
    refine g_callV1i (c_X4_finds (if inB s 0 3 = true then 5 else 0) (by split <;> decide) (trb_k c7)) mi_X4_finds mv_X4_finds ml_X4_36 dX4_load_12 rfl rfl (by decide) (Nat.le_of_ble_eq_true rfl) (Nat.le_of_ble_eq_true rfl) ?_
    exact g_ireturn dX4_load_15 (by rw [f_load, ← (trb_f c7 _).2]) (by rw [f_load, (trb_f c7 _).1]; rfl)

set_option maxRecDepth 100000 in
set_option maxHeartbeats 4000000 in
theorem l_X4_judge {X : Sc} {h : Hp} (hI : In (h 11)) (hS : InS (h 16)) {j : Nat} (hj : j ≤ 3) {z : Int32} : ∀ k, k ≤ nL2 (h 16) j → fst1 (p_judge (h 11) (h 16) j) 0 (nL2 (h 16) j) = fst1 (p_judge (h 11) (h 16) j) k (nL2 (h 16) j - k) → Go X RX4 cX4_judge 4 3 18 [.ref 28, .int (nI j), .int z, .int (nI k)] [] h (some (.int (match fst1 (p_judge (h 11) (h 16) j) 0 (nL2 (h 16) j) with | some k => 1 + nI k | none => 0))) h := by
  have hN := (hS j (by omega)).2.1
  refine loop_up (nL2 (h 16) j) ?_ ?_
  · intro hy
    refine g_iload_n dX4_judge_18 rfl ?_
    refine g_aload_n dX4_judge_19 rfl ?_
    refine g_getR dX4_judge_20 fl_X4_25 rfl rfl ?_
    refine g_iload_n dX4_judge_23 rfl ?_
    refine g_iald j dX4_judge_24 rfl rfl (by omega) ?_
    refine g_icmp_ge 66 dX4_judge_25 (by decide) (fun c25 => ?_) (fun c25 => ?_)
    · refine g_iconst dX4_judge_66 ic_0 ?_
      exact g_ireturn dX4_judge_67 (by rw [hy, fst_0]) rfl
    · exact (lp_yes ((hS j (by omega)).2.2) (by omega) c25).elim
  · intro k hk ih hy
    refine g_iload_n dX4_judge_18 rfl ?_
    refine g_aload_n dX4_judge_19 rfl ?_
    refine g_getR dX4_judge_20 fl_X4_25 rfl rfl ?_
    refine g_iload_n dX4_judge_23 rfl ?_
    refine g_iald j dX4_judge_24 rfl rfl (by omega) ?_
    refine g_icmp_ge 66 dX4_judge_25 (by decide) (fun c25 => ?_) (fun c25 => ?_)
    · exact (lp_no ((hS j (by omega)).2.2) (by omega) hk c25).elim
    · refine g_aload_n dX4_judge_28 rfl ?_
      refine g_iload_n dX4_judge_29 rfl ?_
      refine g_callV1i (c_X4_isGuest hI) mi_X4_isGuest mv_X4_isGuest ml_X4_86 dX4_judge_30 rfl rfl (by decide) (Nat.le_of_ble_eq_true rfl) (Nat.le_of_ble_eq_true rfl) ?_
      refine g_if_eq 56 dX4_judge_33 (by decide) (fun c33 => ?_) (fun c33 => ?_)
      · refine g_iconst dX4_judge_56 ic_1 ?_
        refine g_iload_n dX4_judge_57 rfl ?_
        refine g_iadd dX4_judge_58 ?_
        exact g_ireturn dX4_judge_59 (by rw [hy, fst_y (by first | (simp [p_judge, b0 c33]; done) | (simp [p_judge, nb0 c33]; exact fun q => c53 q.symm)) (by omega)]) rfl
      · have k6 : k < 6 := by
          obtain ⟨x, x1, x2, x3⟩ := isG_of hI (nb0 c33)
          have : k = x := (nI_eq (by omega) (by omega)).mp x3
          omega
        refine g_aload_n dX4_judge_36 rfl ?_
        refine g_getR dX4_judge_37 fl_X4_28 rfl rfl ?_
        refine g_bipush dX4_judge_40 bp_40 ?_
        refine g_iload_n dX4_judge_42 rfl ?_
        refine g_imul dX4_judge_43 ?_
        refine g_iload_n dX4_judge_44 rfl ?_
        refine g_iadd dX4_judge_45 ?_
        refine g_iald (40 * j + k) dX4_judge_46 rfl (jx40 _ _) (by omega) ?_
        refine g_st (st2 := [.int (sN (h 16) j k)]) (by rw [show 8 + (40 * j + k) = 8 + 40 * j + k by omega]; rfl) ?_
        refine g_aload_n dX4_judge_47 rfl ?_
        refine g_iload_n dX4_judge_48 rfl ?_
        refine g_iconst dX4_judge_49 ic_1 ?_
        refine g_callV2i (c_X4_his (w := 1) k6 (by decide)) mi_X4_his mv_X4_his ml_X4_44 dX4_judge_50 rfl rfl (by decide) (Nat.le_of_ble_eq_true rfl) (Nat.le_of_ble_eq_true rfl) ?_
        refine g_icmp_eq 60 dX4_judge_53 (by decide) (fun c53 => ?_) (fun c53 => ?_)
        · refine g_iinc dX4_judge_60 rfl (ii_n _) (by decide) rfl ?_
          refine g_goto 18 dX4_judge_63 (by decide) ?_
          exact ih (by rw [hy, fst_n (by simp [p_judge, nb0 c33, c53]) (by omega)])
        · refine g_iconst dX4_judge_56 ic_1 ?_
          refine g_iload_n dX4_judge_57 rfl ?_
          refine g_iadd dX4_judge_58 ?_
          exact g_ireturn dX4_judge_59 (by rw [hy, fst_y (by first | (simp [p_judge, b0 c33]; done) | (simp [p_judge, nb0 c33]; exact fun q => c53 q.symm)) (by omega)]) rfl

set_option maxRecDepth 100000 in
set_option maxHeartbeats 4000000 in
theorem c_X4_judge {X : Sc} {h : Hp} (hI : In (h 11)) (hS : InS (h 16)) {s : Int32} : Ct X yX4_judge cX4_judge 4 (some .int) 3 [.ref 28, .int s] h (some (.int (oV (f_judge (h 11) (h 16) s)))) (oG 11 15 h (f_judge (h 11) (h 16) s)) := by
  refine ⟨rfl, ?_⟩
  refine g_aload_n dX4_judge_0 rfl ?_
  refine g_iload_n dX4_judge_1 rfl ?_
  refine g_callV1i (c_X4_notThere) mi_X4_notThere mv_X4_notThere ml_X4_174 dX4_judge_2 rfl rfl (by decide) (Nat.le_of_ble_eq_true rfl) (Nat.le_of_ble_eq_true rfl) ?_
  refine g_istore_n dX4_judge_5 (by decide) rfl ?_
  refine g_iload_n dX4_judge_6 rfl ?_
  refine g_if_eq 16 dX4_judge_7 (by decide) (fun c7 => ?_) (fun c7 => ?_)
  · have tz := trb_0 c7
    obtain ⟨j, hj, tj, rfl⟩ := inB_of 3 (by decide) tz.1
    refine g_iconst dX4_judge_16 ic_0 ?_
    refine g_istore_n dX4_judge_17 (by decide) rfl ?_
    rw [f_judge, onS_ok tz, tj]
    simp only [oV, oG]
    rw [setg_id]
    exact l_X4_judge hI hS hj 0 (Nat.zero_le _) rfl
  · refine g_aload_n dX4_judge_10 rfl ?_
    refine g_iload_n dX4_judge_11 rfl ?_
    refine g_callV1i (c_X4_finds (if inB s 0 3 = true then 5 else 0) (by split <;> decide) (trb_k c7)) mi_X4_finds mv_X4_finds ml_X4_36 dX4_judge_12 rfl rfl (by decide) (Nat.le_of_ble_eq_true rfl) (Nat.le_of_ble_eq_true rfl) ?_
    exact g_ireturn dX4_judge_15 (by rw [f_judge, ← (trb_f c7 _).2]) (by rw [f_judge, (trb_f c7 _).1]; rfl)

