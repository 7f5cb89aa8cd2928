/-! THE REFERENCE'S CALLS, fourth part -/
set_option maxRecDepth 100000 in
set_option maxHeartbeats 4000000 in
theorem c_X4_image {X : Sc} {h : Hp} : Ct X yX4_image cX4_image 1 (some .int) 1 [.ref 28] h (some (.int 1)) (up (setg h 12 (h 11)) 10 0 1) := by
  refine ⟨rfl, ?_⟩
  refine g_aload_n dX4_image_0 rfl ?_
  refine g_getR dX4_image_1 fl_X4_9 rfl rfl ?_
  refine g_aload_n dX4_image_4 rfl ?_
  refine g_getR dX4_image_5 fl_X4_13 rfl rfl ?_
  refine g_callS2v (c_X4_copyAll rfl rfl (by decide) (by decide)) mi_X4_copyAll ms_X4_copyAll ml_X4_140 dX4_image_8 (by decide) (Nat.le_of_ble_eq_true rfl) (Nat.le_of_ble_eq_true rfl) ?_
  refine g_aload_n dX4_image_11 rfl ?_
  refine g_iconst dX4_image_12 ic_1 ?_
  refine g_put dX4_image_13 fl_X4_249 fp_4_3 rfl rfl rfl rfl ?_
  refine g_iconst dX4_image_16 ic_1 ?_
  exact g_ireturn dX4_image_17 rfl rfl

set_option maxRecDepth 100000 in
set_option maxHeartbeats 4000000 in
theorem c_X4_undo {X : Sc} {h : Hp} : Ct X yX4_undo cX4_undo 1 (some .int) 1 [.ref 28] h (some (.int (oV (f_undo (h 10 0) (h 12))))) (oG 11 15 h (f_undo (h 10 0) (h 12))) := by
  refine ⟨rfl, ?_⟩
  refine g_aload_n dX4_undo_0 rfl ?_
  refine g_getI dX4_undo_1 fl_X4_249 rfl rfl ?_
  refine g_if_ne 14 dX4_undo_4 (by decide) (fun c4 => ?_) (fun c4 => ?_)
  · refine g_aload_n dX4_undo_14 rfl ?_
    refine g_getR dX4_undo_15 fl_X4_13 rfl rfl ?_
    refine g_aload_n dX4_undo_18 rfl ?_
    refine g_getR dX4_undo_19 fl_X4_9 rfl rfl ?_
    refine g_callS2v (c_X4_copyAll rfl rfl (by decide) (by decide)) mi_X4_copyAll ms_X4_copyAll ml_X4_140 dX4_undo_22 (by decide) (Nat.le_of_ble_eq_true rfl) (Nat.le_of_ble_eq_true rfl) ?_
    refine g_aload_n dX4_undo_25 rfl ?_
    refine g_getR dX4_undo_26 fl_X4_9 rfl rfl ?_
    refine g_iconst dX4_undo_29 ic_0 ?_
    refine g_iald0 0 dX4_undo_30 rfl rfl (by decide) ?_
    refine g_st (st2 := [.int (h 12 0)]) (by rw [setg_s]) ?_
    exact g_ireturn dX4_undo_31 (by first | (rw [f_undo, if_pos c4]; rfl) | (rw [f_undo, if_neg c4]; rfl)) (by first | (rw [f_undo, if_pos c4]; rfl) | (rw [f_undo, if_neg c4]; rfl))
  · refine g_aload_n dX4_undo_7 rfl ?_
    refine g_ldc dX4_undo_8 lc_X4_35 ?_
    refine g_callV1i (c_X4_finds 3 (by decide) (by decide)) mi_X4_finds mv_X4_finds ml_X4_36 dX4_undo_10 rfl rfl (by decide) (Nat.le_of_ble_eq_true rfl) (Nat.le_of_ble_eq_true rfl) ?_
    exact g_ireturn dX4_undo_13 (by first | (rw [f_undo, if_pos c4]; rfl) | (rw [f_undo, if_neg c4]; rfl)) (by first | (rw [f_undo, if_pos c4]; rfl) | (rw [f_undo, if_neg c4]; rfl))

set_option maxRecDepth 100000 in
set_option maxHeartbeats 4000000 in
theorem c_X4_tear {X : Sc} {h : Hp} : Ct X yX4_tear cX4_tear 2 (some .int) 0 [.ref 28] h (some (.int (if h 10 0 = 0 then 0 else 1))) (up h 10 0 0) := by
  refine ⟨rfl, ?_⟩
  refine g_aload_n dX4_tear_0 rfl ?_
  refine g_getI dX4_tear_1 fl_X4_249 rfl rfl ?_
  refine g_if_eq 11 dX4_tear_4 (by decide) (fun c4 => ?_) (fun c4 => ?_)
  · refine g_iconst dX4_tear_11 ic_0 ?_
    refine g_istore_n dX4_tear_12 (by decide) rfl ?_
    refine g_aload_n dX4_tear_13 rfl ?_
    refine g_iconst dX4_tear_14 ic_0 ?_
    refine g_put dX4_tear_15 fl_X4_249 fp_4_3 rfl rfl rfl rfl ?_
    refine g_iload_n dX4_tear_18 rfl ?_
    exact g_ireturn dX4_tear_19 (by first | (rw [if_pos c4]) | (rw [if_neg c4])) rfl
  · refine g_iconst dX4_tear_7 ic_1 ?_
    refine g_goto 12 dX4_tear_8 (by decide) ?_
    refine g_istore_n dX4_tear_12 (by decide) rfl ?_
    refine g_aload_n dX4_tear_13 rfl ?_
    refine g_iconst dX4_tear_14 ic_0 ?_
    refine g_put dX4_tear_15 fl_X4_249 fp_4_3 rfl rfl rfl rfl ?_
    refine g_iload_n dX4_tear_18 rfl ?_
    exact g_ireturn dX4_tear_19 (by first | (rw [if_pos c4]) | (rw [if_neg c4])) rfl

set_option maxRecDepth 100000 in
set_option maxHeartbeats 4000000 in
theorem c_X4_seed {X : Sc} {h : Hp} {v : Int32} : Ct X yX4_seed cX4_seed 2 (some .int) 1 [.ref 28, .int v] h (some (.int (h 11 1))) (setg h 11 (upd (h 11) 1 v)) := by
  refine ⟨rfl, ?_⟩
  refine g_aload_n dX4_seed_0 rfl ?_
  refine g_iconst dX4_seed_1 ic_1 ?_
  refine g_iload_n dX4_seed_2 rfl ?_
  refine g_callV2i (c_X4_becomes (q := 1) (by decide)) mi_X4_becomes mv_X4_becomes ml_X4_59 dX4_seed_3 rfl rfl (by decide) (Nat.le_of_ble_eq_true rfl) (Nat.le_of_ble_eq_true rfl) ?_
  exact g_ireturn dX4_seed_6 rfl rfl

set_option maxRecDepth 100000 in
set_option maxHeartbeats 4000000 in
theorem c_X4_wipe {X : Sc} {h : Hp} : Ct X yX4_wipe cX4_wipe 2 (some .int) 0 [.ref 28] h (some (.int (h 14 0))) (setg h 14 (upd (h 14) 0 0)) := by
  refine ⟨rfl, ?_⟩
  refine g_aload_n dX4_wipe_0 rfl ?_
  refine g_getI dX4_wipe_1 fl_X4_184 rfl rfl ?_
  refine g_istore_n dX4_wipe_4 (by decide) rfl ?_
  refine g_aload_n dX4_wipe_5 rfl ?_
  refine g_iconst dX4_wipe_6 ic_0 ?_
  refine g_putI dX4_wipe_7 fl_X4_184 fp_4_9 rfl rfl ?_
  refine g_iload_n dX4_wipe_10 rfl ?_
  exact g_ireturn dX4_wipe_11 rfl (up_setg _ _ _ _)

theorem sp_lt {m : Rw} (h : In m) {s : Nat} (hs : s < 10) (c : m (88 + s) < 0) : m (88 + s) = -1 := by
  rcases h.2 s hs with q | ⟨x, hx, e⟩
  · exact q
  · have := h.nD.1
    rw [e] at c
    exact absurd c (nI_pos (by omega))
theorem sp_ge {m : Rw} {s : Nat} (c : ¬ m (88 + s) < 0) : ¬ m (88 + s) = -1 := fun q => c (by rw [q]; decide)
set_option maxRecDepth 100000 in
set_option maxHeartbeats 4000000 in
theorem l_X4_manyHeld {X : Sc} {h : Hp} (hI : In (h 11)) : ∀ k, k ≤ 10 → Go X RX4 cX4_manyHeld 3 0 5 [.ref 28, .int (nI (spoN (h 11) k)), .int (nI (88 + k))] [] h (some (.int (nI (spoN (h 11) 10)))) h := by
  refine loop_up (10) ?_ ?_
  · refine g_iload_n dX4_manyHeld_5 rfl ?_
    refine g_bipush dX4_manyHeld_6 bp_98 ?_
    refine g_icmp_ge 34 dX4_manyHeld_8 (by decide) (fun c8 => ?_) (fun c8 => ?_)
    · refine g_iload_n dX4_manyHeld_34 rfl ?_
      exact g_ireturn dX4_manyHeld_35 rfl rfl
    · exact absurd (nI_le (a := 98) (b := 98) (by decide) (by decide)) c8
  · intro k hk ih
    refine g_iload_n dX4_manyHeld_5 rfl ?_
    refine g_bipush dX4_manyHeld_6 bp_98 ?_
    refine g_icmp_ge 34 dX4_manyHeld_8 (by decide) (fun c8 => ?_) (fun c8 => ?_)
    · exact absurd c8 (nI_ge (a := 88 + k) (b := 98) (by omega) (by decide))
    · refine g_iload_n dX4_manyHeld_11 rfl ?_
      refine g_aload_n dX4_manyHeld_12 rfl ?_
      refine g_getR dX4_manyHeld_13 fl_X4_9 rfl rfl ?_
      refine g_iload_n dX4_manyHeld_16 rfl ?_
      refine g_iald0 (88 + k) dX4_manyHeld_17 rfl rfl (by omega) ?_
      refine g_if_lt 25 dX4_manyHeld_18 (by decide) (fun c18 => ?_) (fun c18 => ?_)
      · refine g_iconst dX4_manyHeld_25 ic_0 ?_
        refine g_iadd dX4_manyHeld_26 ?_
        refine g_istore_n dX4_manyHeld_27 (by decide) rfl ?_
        refine g_iinc dX4_manyHeld_28 rfl (ii_n _) (by decide) rfl ?_
        refine g_goto 5 dX4_manyHeld_31 (by decide) ?_
        exact g_lv (by first | (rw [spoN, if_pos (sp_lt hI hk c18), Int32.add_zero]; rfl) | (rw [spoN, if_neg (sp_ge c18), nI_1]; rfl)) ih
      · refine g_iconst dX4_manyHeld_21 ic_1 ?_
        refine g_goto 26 dX4_manyHeld_22 (by decide) ?_
        refine g_iadd dX4_manyHeld_26 ?_
        refine g_istore_n dX4_manyHeld_27 (by decide) rfl ?_
        refine g_iinc dX4_manyHeld_28 rfl (ii_n _) (by decide) rfl ?_
        refine g_goto 5 dX4_manyHeld_31 (by decide) ?_
        exact g_lv (by first | (rw [spoN, if_pos (sp_lt hI hk c18), Int32.add_zero]; rfl) | (rw [spoN, if_neg (sp_ge c18), nI_1]; rfl)) ih

set_option maxRecDepth 100000 in
set_option maxHeartbeats 4000000 in
theorem c_X4_manyHeld {X : Sc} {h : Hp} (hI : In (h 11)) : Ct X yX4_manyHeld cX4_manyHeld 3 (some .int) 0 [.ref 28] h (some (.int (nI (spoN (h 11) 10)))) h := by
  refine ⟨rfl, ?_⟩
  refine g_iconst dX4_manyHeld_0 ic_0 ?_
  refine g_istore_n dX4_manyHeld_1 (by decide) rfl ?_
  refine g_bipush dX4_manyHeld_2 bp_88 ?_
  refine g_istore_n dX4_manyHeld_4 (by decide) rfl ?_
  exact l_X4_manyHeld hI 0 (by decide)

set_option maxRecDepth 100000 in
set_option maxHeartbeats 4000000 in
theorem c_X4_count {X : Sc} {h : Hp} (hI : In (h 11)) {k : Int32} : Ct X yX4_count cX4_count 2 (some .int) 3 [.ref 28, .int k] h (some (.int (oV (f_count (h 11) (h 14 0) k)))) (oM h (f_count (h 11) (h 14 0) k)) := by
  refine ⟨rfl, ?_⟩
  refine g_iload_n dX4_count_0 rfl ?_
  refine g_tswc (0) (0) (47) 48 dX4_count_1 (by decide) (by decide) (by decide) rfl (by decide) (fun c1 => ?_) (fun c1_0 n1_0 => ?_)
  · refine g_aload_n dX4_count_48 rfl ?_
    refine g_getR dX4_count_49 fl_X4_9 rfl rfl ?_
    refine g_iconst dX4_count_52 ic_0 ?_
    refine g_iald0 0 dX4_count_53 rfl rfl (by decide) ?_
    exact g_ireturn dX4_count_54 (by simp_all [f_count, oV, fvl_0, fvl_1, fvl_2, fvl_3, fvl_4, fvl_5, fvl_6, bI_0]) (by simp_all [f_count, oM, bI_0, setg_id])
  refine g_tswc (1) (1) (54) 55 dX4_count_1 (by decide) (by decide) (by decide) rfl (by decide) (fun c1 => ?_) (fun c1_1 n1_1 => ?_)
  · refine g_aload_n dX4_count_55 rfl ?_
    refine g_getR dX4_count_56 fl_X4_9 rfl rfl ?_
    refine g_iconst dX4_count_59 ic_2 ?_
    refine g_iald0 2 dX4_count_60 rfl rfl (by decide) ?_
    exact g_ireturn dX4_count_61 (by simp_all [f_count, oV, fvl_0, fvl_1, fvl_2, fvl_3, fvl_4, fvl_5, fvl_6, bI_0]) (by simp_all [f_count, oM, bI_0, setg_id])
  refine g_tswc (2) (2) (61) 62 dX4_count_1 (by decide) (by decide) (by decide) rfl (by decide) (fun c1 => ?_) (fun c1_2 n1_2 => ?_)
  · refine g_aload_n dX4_count_62 rfl ?_
    refine g_getR dX4_count_63 fl_X4_9 rfl rfl ?_
    refine g_iconst dX4_count_66 ic_3 ?_
    refine g_iald0 3 dX4_count_67 rfl rfl (by decide) ?_
    exact g_ireturn dX4_count_68 (by simp_all [f_count, oV, fvl_0, fvl_1, fvl_2, fvl_3, fvl_4, fvl_5, fvl_6, bI_0]) (by simp_all [f_count, oM, bI_0, setg_id])
  refine g_tswc (3) (3) (68) 69 dX4_count_1 (by decide) (by decide) (by decide) rfl (by decide) (fun c1 => ?_) (fun c1_3 n1_3 => ?_)
  · refine g_aload_n dX4_count_69 rfl ?_
    refine g_callV0i (c_X4_bills hI) mi_X4_bills mv_X4_bills ml_X4_118 dX4_count_70 rfl rfl (by decide) (Nat.le_of_ble_eq_true rfl) (Nat.le_of_ble_eq_true rfl) ?_
    exact g_ireturn dX4_count_73 (by simp_all [f_count, oV, fvl_0, fvl_1, fvl_2, fvl_3, fvl_4, fvl_5, fvl_6, bI_0]) (by simp_all [f_count, oM, bI_0, setg_id])
  refine g_tswc (4) (4) (73) 74 dX4_count_1 (by decide) (by decide) (by decide) rfl (by decide) (fun c1 => ?_) (fun c1_4 n1_4 => ?_)
  · refine g_aload_n dX4_count_74 rfl ?_
    refine g_callV0i (c_X4_allServed hI) mi_X4_allServed mv_X4_allServed ml_X4_128 dX4_count_75 rfl rfl (by decide) (Nat.le_of_ble_eq_true rfl) (Nat.le_of_ble_eq_true rfl) ?_
    exact g_ireturn dX4_count_78 (by simp_all [f_count, oV, fvl_0, fvl_1, fvl_2, fvl_3, fvl_4, fvl_5, fvl_6, bI_0]) (by simp_all [f_count, oM, bI_0, setg_id])
  refine g_tswc (5) (5) (78) 79 dX4_count_1 (by decide) (by decide) (by decide) rfl (by decide) (fun c1 => ?_) (fun c1_5 n1_5 => ?_)
  · refine g_aload_n dX4_count_79 rfl ?_
    refine g_getI dX4_count_80 fl_X4_184 rfl rfl ?_
    exact g_ireturn dX4_count_83 (by simp_all [f_count, oV, fvl_0, fvl_1, fvl_2, fvl_3, fvl_4, fvl_5, fvl_6, bI_0]) (by simp_all [f_count, oM, bI_0, setg_id])
  refine g_tswc (6) (6) (83) 84 dX4_count_1 (by decide) (by decide) (by decide) rfl (by decide) (fun c1 => ?_) (fun c1_6 n1_6 => ?_)
  · refine g_aload_n dX4_count_84 rfl ?_
    refine g_getR dX4_count_85 fl_X4_9 rfl rfl ?_
    refine g_iconst dX4_count_88 ic_1 ?_
    refine g_iald0 1 dX4_count_89 rfl rfl (by decide) ?_
    exact g_ireturn dX4_count_90 (by simp_all [f_count, oV, fvl_0, fvl_1, fvl_2, fvl_3, fvl_4, fvl_5, fvl_6, bI_0]) (by simp_all [f_count, oM, bI_0, setg_id])
  refine g_tswc (7) (7) (90) 91 dX4_count_1 (by decide) (by decide) (by decide) rfl (by decide) (fun c1 => ?_) (fun c1_7 n1_7 => ?_)
  · refine g_aload_n dX4_count_91 rfl ?_
    refine g_callV0i (c_X4_manyHeld hI) mi_X4_manyHeld mv_X4_manyHeld ml_X4_252 dX4_count_92 rfl rfl (by decide) (Nat.le_of_ble_eq_true rfl) (Nat.le_of_ble_eq_true rfl) ?_
    exact g_ireturn dX4_count_95 (by simp_all [f_count, oV, fvl_0, fvl_1, fvl_2, fvl_3, fvl_4, fvl_5, fvl_6, bI_0]) (by simp_all [f_count, oM, bI_0, setg_id])
  refine g_tswd 96 dX4_count_1 (by omega) (by decide) ?_
  refine g_aload_n dX4_count_96 rfl ?_
  refine g_ldc dX4_count_97 lc_X4_34 ?_
  refine g_callV1i (c_X4_finds 0 (by decide) (by decide)) mi_X4_finds mv_X4_finds ml_X4_36 dX4_count_99 rfl rfl (by decide) (Nat.le_of_ble_eq_true rfl) (Nat.le_of_ble_eq_true rfl) ?_
  exact g_ireturn dX4_count_102 (by simp_all [f_count, oV, fvl_0, fvl_1, fvl_2, fvl_3, fvl_4, fvl_5, fvl_6, bI_0]) (by simp_all [f_count, oM, bI_0, setg_id])

set_option maxRecDepth 100000 in
set_option maxHeartbeats 4000000 in
theorem a_X4_status {X : Sc} {h : Hp} : ∀ k, k ≤ 7 → Go X RX4 cX4_status 4 2 21 [.ref 28, .int (-1), .int (fndS (h 15) k), .int (nI k)] [] h (some (.int (fndS (h 15) 7))) h := by
  refine loop_up (7) ?_ ?_
  · refine g_iload_n dX4_status_21 rfl ?_
    refine g_bipush dX4_status_22 bp_7 ?_
    refine g_icmp_ge 55 dX4_status_24 (by decide) (fun c24 => ?_) (fun c24 => ?_)
    · refine g_iload_n dX4_status_55 rfl ?_
      exact g_ireturn dX4_status_56 rfl rfl
    · exact (lp_yes ((rfl : (7 : Int32) = nI 7)) (by decide) c24).elim
  · intro k hk ih
    refine g_iload_n dX4_status_21 rfl ?_
    refine g_bipush dX4_status_22 bp_7 ?_
    refine g_icmp_ge 55 dX4_status_24 (by decide) (fun c24 => ?_) (fun c24 => ?_)
    · exact (lp_no ((rfl : (7 : Int32) = nI 7)) (by decide) hk c24).elim
    · refine g_iload_n dX4_status_27 rfl ?_
      refine g_iload_n dX4_status_28 rfl ?_
      refine g_if_lt 37 dX4_status_29 (by decide) (fun c29 => ?_) (fun c29 => ?_)
      · refine g_aload_n dX4_status_37 rfl ?_
        refine g_getR dX4_status_38 fl_X4_19 rfl rfl ?_
        refine g_iload_n dX4_status_41 rfl ?_
        refine g_iald0 k dX4_status_42 rfl rfl hk ?_
        refine g_goto 47 dX4_status_43 (by decide) ?_
        refine g_iadd dX4_status_47 ?_
        refine g_istore_n dX4_status_48 (by decide) rfl ?_
        refine g_iinc dX4_status_49 rfl (ii_n _) (by decide) rfl ?_
        refine g_goto 21 dX4_status_52 (by decide) ?_
        exact ih
      · exact absurd (by decide) c29

set_option maxRecDepth 100000 in
set_option maxHeartbeats 4000000 in
theorem b_X4_status {X : Sc} {h : Hp} {j : Nat} (hj : j ≤ 6) : ∀ k, k ≤ 7 → Go X RX4 cX4_status 4 2 21 [.ref 28, .int (nI j), .int (if j < k then h 15 j else 0), .int (nI k)] [] h (some (.int (h 15 j))) h := by
  refine loop_up (7) ?_ ?_
  · refine g_iload_n dX4_status_21 rfl ?_
    refine g_bipush dX4_status_22 bp_7 ?_
    refine g_icmp_ge 55 dX4_status_24 (by decide) (fun c24 => ?_) (fun c24 => ?_)
    · refine g_iload_n dX4_status_55 rfl ?_
      exact g_ireturn dX4_status_56 (by rw [if_pos (by omega)]) rfl
    · exact (lp_yes ((rfl : (7 : Int32) = nI 7)) (by decide) c24).elim
  · intro k hk ih
    refine g_iload_n dX4_status_21 rfl ?_
    refine g_bipush dX4_status_22 bp_7 ?_
    refine g_icmp_ge 55 dX4_status_24 (by decide) (fun c24 => ?_) (fun c24 => ?_)
    · exact (lp_no ((rfl : (7 : Int32) = nI 7)) (by decide) hk c24).elim
    · refine g_iload_n dX4_status_27 rfl ?_
      refine g_iload_n dX4_status_28 rfl ?_
      refine g_if_lt 37 dX4_status_29 (by decide) (fun c29 => ?_) (fun c29 => ?_)
      · exact absurd c29 (nI_pos (by omega))
      · refine g_iload_n dX4_status_32 rfl ?_
        refine g_iload_n dX4_status_33 rfl ?_
        refine g_icmp_ne 46 dX4_status_34 (by decide) (fun c34 => ?_) (fun c34 => ?_)
        · have e : ¬ j = k := fun q => c34 (by rw [q])
          refine g_iconst dX4_status_46 ic_0 ?_
          refine g_iadd dX4_status_47 ?_
          refine g_istore_n dX4_status_48 (by decide) rfl ?_
          refine g_iinc dX4_status_49 rfl (ii_n _) (by decide) rfl ?_
          refine g_goto 21 dX4_status_52 (by decide) ?_
          exact g_lv (by first | (subst e; rw [if_neg (Nat.lt_irrefl _), if_pos (Nat.lt_succ_self _), Int32.zero_add]; rfl) | (rw [Int32.add_zero]; rcases Nat.lt_or_ge j k with q | q; (rw [if_pos q, if_pos (show j < k + 1 by omega)]; rfl); (rw [if_neg (show ¬ j < k by omega), if_neg (show ¬ j < k + 1 by omega)]; rfl))) ih
        · have e : j = k := (nI_eq (by omega) (by omega)).mp c34
          refine g_aload_n dX4_status_37 rfl ?_
          refine g_getR dX4_status_38 fl_X4_19 rfl rfl ?_
          refine g_iload_n dX4_status_41 rfl ?_
          refine g_iald0 k dX4_status_42 rfl rfl hk ?_
          refine g_goto 47 dX4_status_43 (by decide) ?_
          refine g_iadd dX4_status_47 ?_
          refine g_istore_n dX4_status_48 (by decide) rfl ?_
          refine g_iinc dX4_status_49 rfl (ii_n _) (by decide) rfl ?_
          refine g_goto 21 dX4_status_52 (by decide) ?_
          exact g_lv (by first | (subst e; rw [if_neg (Nat.lt_irrefl _), if_pos (Nat.lt_succ_self _), Int32.zero_add]; rfl) | (rw [Int32.add_zero]; rcases Nat.lt_or_ge j k with q | q; (rw [if_pos q, if_pos (show j < k + 1 by omega)]; rfl); (rw [if_neg (show ¬ j < k by omega), if_neg (show ¬ j < k + 1 by omega)]; rfl))) ih

theorem st_in {k : Int32} (h : inB k (-1) 6 = true) : k = -1 ∨ ∃ j, j ≤ 6 ∧ tn (nI j) = j ∧ k = nI j := by
  by_cases q : k = -1
  · exact Or.inl q
  · refine Or.inr (inB_of 6 (by decide) ?_)
    unfold inB at h ⊢
    simp only [Bool.and_eq_true, Bool.not_eq_true', decide_eq_false_iff_not] at h ⊢
    refine ⟨fun z => ?_, h.2⟩
    have h1 := h.1
    rw [Int32.lt_iff_toInt_lt] at z h1
    have q2 : k.toInt ≠ -1 := fun e => q (Int32.toInt_inj.mp (e.trans (by decide)))
    have e0 : (0 : Int32).toInt = 0 := by decide
    have e1 : (-1 : Int32).toInt = -1 := by decide
    omega
theorem st_out {k : Int32} (h : inB k (-1) 6 = false) : ¬ k = -1 ∧ inB k 0 6 = false := by
  refine ⟨?_, ?_⟩
  · rintro rfl; exact absurd h (by decide)
  · cases q : inB k 0 6 with
    | false => rfl
    | true =>
      obtain ⟨j, hj, -, rfl⟩ := inB_of 6 (by decide) q
      have : ∀ j, j ≤ 6 → inB (nI j) (-1) 6 = true := by decide
      rw [this j hj] at h
      cases h
theorem st_nn : ∀ j, j ≤ 6 → ¬ nI j = -1 ∧ inB (nI j) 0 6 = true := by decide
set_option maxRecDepth 100000 in
set_option maxHeartbeats 4000000 in
theorem c_X4_status {X : Sc} {h : Hp} {k : Int32} : Ct X yX4_status cX4_status 4 (some .int) 2 [.ref 28, .int k] h (some (.int (oV (f_status (h 15) k)))) (oG 15 15 h (f_status (h 15) k)) := by
  refine ⟨rfl, ?_⟩
  refine g_iload_n dX4_status_0 rfl ?_
  refine g_iconst dX4_status_1 ic_m1 ?_
  refine g_bipush dX4_status_2 bp_6 ?_
  refine g_callS3i (c_X4_in) mi_X4_in ms_X4_in ml_X4_40 dX4_status_4 (by decide) (Nat.le_of_ble_eq_true rfl) (Nat.le_of_ble_eq_true rfl) ?_
  refine g_if_ne 17 dX4_status_7 (by decide) (fun c7 => ?_) (fun c7 => ?_)
  · refine g_iconst dX4_status_17 ic_0 ?_
    refine g_istore_n dX4_status_18 (by decide) rfl ?_
    refine g_iconst dX4_status_19 ic_0 ?_
    refine g_istore_n dX4_status_20 (by decide) rfl ?_
    rcases st_in (nb0 c7) with rfl | ⟨j, hj, tj, rfl⟩
    · rw [f_status, if_pos rfl]
      simp only [oV, oG]
      rw [setg_id]
      exact a_X4_status 0 (by decide)
    · rw [f_status, if_neg (st_nn j hj).1, if_pos (st_nn j hj).2, tj]
      simp only [oV, oG]
      rw [setg_id]
      exact b_X4_status hj 0 (by decide)
  · refine g_aload_n dX4_status_10 rfl ?_
    refine g_ldc dX4_status_11 lc_X4_34 ?_
    refine g_callV1i (c_X4_finds 0 (by decide) (by decide)) mi_X4_finds mv_X4_finds ml_X4_36 dX4_status_13 rfl rfl (by decide) (Nat.le_of_ble_eq_true rfl) (Nat.le_of_ble_eq_true rfl) ?_
    exact g_ireturn dX4_status_16 (by rw [f_status, if_neg (st_out (b0 c7)).1, if_neg (by rw [(st_out (b0 c7)).2]; decide)]; rfl) (by rw [f_status, if_neg (st_out (b0 c7)).1, if_neg (by rw [(st_out (b0 c7)).2]; decide)]; rfl)

set_option maxRecDepth 100000 in
set_option maxHeartbeats 4000000 in
theorem c_X4_hold {X : Sc} {h : Hp} (hI : In (h 11)) {s d : Int32} : Ct X yX4_hold cX4_hold 3 (some .int) 2 [.ref 28, .int s, .int d] h (some (.int (oV (f_hold (h 11) s d)))) (oM h (f_hold (h 11) s d)) := by
  refine ⟨rfl, ?_⟩
  refine g_iload_n dX4_hold_0 rfl ?_
  refine g_iconst dX4_hold_1 ic_0 ?_
  refine g_bipush dX4_hold_2 bp_9 ?_
  refine g_callS3i (c_X4_in) mi_X4_in ms_X4_in ml_X4_40 dX4_hold_4 (by decide) (Nat.le_of_ble_eq_true rfl) (Nat.le_of_ble_eq_true rfl) ?_
  refine g_if_eq 23 dX4_hold_7 (by decide) (fun c7 => ?_) (fun c7 => ?_)
  · refine g_aload_n dX4_hold_23 rfl ?_
    refine g_ldc dX4_hold_24 lc_X4_34 ?_
    refine g_callV1i (c_X4_finds 0 (by decide) (by decide)) mi_X4_finds mv_X4_finds ml_X4_36 dX4_hold_26 rfl rfl (by decide) (Nat.le_of_ble_eq_true rfl) (Nat.le_of_ble_eq_true rfl) ?_
    exact g_ireturn dX4_hold_29 (by simp_all [f_hold, oV, fvl_0, fvl_1, fvl_2, fvl_3, fvl_4, fvl_5, fvl_6, bI_0]) (by first | (simp_all [f_hold, oM, bI_0]; done) | (rw [up_setg]; simp_all [f_hold, oM, bI_0]; done))
  · refine g_iload_n dX4_hold_10 rfl ?_
    refine g_iconst dX4_hold_11 ic_m1 ?_
    refine g_icmp_eq 30 dX4_hold_12 (by decide) (fun c12 => ?_) (fun c12 => ?_)
    · obtain ⟨j, hj, tj, rfl⟩ := inB_of 9 (by decide) (nb0 c7)
      refine g_aload_n dX4_hold_30 rfl ?_
      refine g_getR dX4_hold_31 fl_X4_9 rfl rfl ?_
      refine g_bipush dX4_hold_34 bp_88 ?_
      refine g_iload_n dX4_hold_36 rfl ?_
      refine g_iadd dX4_hold_37 ?_
      refine g_iload_n dX4_hold_38 rfl ?_
      refine g_iast0 (88 + j) dX4_hold_39 rfl (jx88 j) (by omega) ?_
      refine g_iconst dX4_hold_40 ic_1 ?_
      exact g_ireturn dX4_hold_41 (by simp_all [f_hold, oV, fvl_0, fvl_1, fvl_2, fvl_3, fvl_4, fvl_5, fvl_6, bI_0]) (by first | (simp_all [f_hold, oM, bI_0]; done) | (rw [up_setg]; simp_all [f_hold, oM, bI_0]; done))
    · refine g_aload_n dX4_hold_15 rfl ?_
      refine g_iload_n dX4_hold_16 rfl ?_
      refine g_callV1i (c_X4_isDish hI) mi_X4_isDish mv_X4_isDish ml_X4_80 dX4_hold_17 rfl rfl (by decide) (Nat.le_of_ble_eq_true rfl) (Nat.le_of_ble_eq_true rfl) ?_
      refine g_if_ne 30 dX4_hold_20 (by decide) (fun c20 => ?_) (fun c20 => ?_)
      · obtain ⟨j, hj, tj, rfl⟩ := inB_of 9 (by decide) (nb0 c7)
        refine g_aload_n dX4_hold_30 rfl ?_
        refine g_getR dX4_hold_31 fl_X4_9 rfl rfl ?_
        refine g_bipush dX4_hold_34 bp_88 ?_
        refine g_iload_n dX4_hold_36 rfl ?_
        refine g_iadd dX4_hold_37 ?_
        refine g_iload_n dX4_hold_38 rfl ?_
        refine g_iast0 (88 + j) dX4_hold_39 rfl (jx88 j) (by omega) ?_
        refine g_iconst dX4_hold_40 ic_1 ?_
        exact g_ireturn dX4_hold_41 (by simp_all [f_hold, oV, fvl_0, fvl_1, fvl_2, fvl_3, fvl_4, fvl_5, fvl_6, bI_0]) (by first | (simp_all [f_hold, oM, bI_0]; done) | (rw [up_setg]; simp_all [f_hold, oM, bI_0]; done))
      · refine g_aload_n dX4_hold_23 rfl ?_
        refine g_ldc dX4_hold_24 lc_X4_34 ?_
        refine g_callV1i (c_X4_finds 0 (by decide) (by decide)) mi_X4_finds mv_X4_finds ml_X4_36 dX4_hold_26 rfl rfl (by decide) (Nat.le_of_ble_eq_true rfl) (Nat.le_of_ble_eq_true rfl) ?_
        exact g_ireturn dX4_hold_29 (by simp_all [f_hold, oV, fvl_0, fvl_1, fvl_2, fvl_3, fvl_4, fvl_5, fvl_6, bI_0]) (by first | (simp_all [f_hold, oM, bI_0]; done) | (rw [up_setg]; simp_all [f_hold, oM, bI_0]; done))

set_option maxRecDepth 100000 in
set_option maxHeartbeats 4000000 in
theorem c_X4_isUnder {X : Sc} {h : Hp} {k o : Int32} : Ct X yX4_isUnder cX4_isUnder 3 (some .boolean) 0 [.int k, .int o] h (some (.int (bI (und k o)))) h := by
  refine ⟨rok_b _, ?_⟩
  refine g_iload_n dX4_isUnder_0 rfl ?_
  refine g_iconst dX4_isUnder_1 ic_3 ?_
  refine g_icmp_eq 10 dX4_isUnder_2 (by decide) (fun c2 => ?_) (fun c2 => ?_)
  · refine g_iconst dX4_isUnder_10 ic_1 ?_
    refine g_goto 15 dX4_isUnder_11 (by decide) ?_
    refine g_istore_n dX4_isUnder_15 (by decide) rfl ?_
    refine g_iload_n dX4_isUnder_16 rfl ?_
    refine g_if_eq 55 dX4_isUnder_17 (by decide) (fun c17 => ?_) (fun c17 => ?_)
    · refine g_iconst dX4_isUnder_55 ic_1 ?_
      refine g_goto 60 dX4_isUnder_56 (by decide) ?_
      exact g_ireturn dX4_isUnder_60 (by simp_all [und, bI]) rfl
    · refine g_iload_n dX4_isUnder_20 rfl ?_
      refine g_iload_n dX4_isUnder_21 rfl ?_
      refine g_icmp_eq 55 dX4_isUnder_22 (by decide) (fun c22 => ?_) (fun c22 => ?_)
      · refine g_iconst dX4_isUnder_55 ic_1 ?_
        refine g_goto 60 dX4_isUnder_56 (by decide) ?_
        exact g_ireturn dX4_isUnder_60 (by simp_all [und, bI]) rfl
      · refine g_iload_n dX4_isUnder_25 rfl ?_
        refine g_iconst dX4_isUnder_26 ic_2 ?_
        refine g_icmp_ne 34 dX4_isUnder_27 (by decide) (fun c27 => ?_) (fun c27 => ?_)
        · refine g_iload_n dX4_isUnder_34 rfl ?_
          refine g_iconst dX4_isUnder_35 ic_3 ?_
          refine g_icmp_ne 44 dX4_isUnder_36 (by decide) (fun c36 => ?_) (fun c36 => ?_)
          · refine g_iload_n dX4_isUnder_44 rfl ?_
            refine g_iconst dX4_isUnder_45 ic_1 ?_
            refine g_icmp_ne 59 dX4_isUnder_46 (by decide) (fun c46 => ?_) (fun c46 => ?_)
            · refine g_iconst dX4_isUnder_59 ic_0 ?_
              exact g_ireturn dX4_isUnder_60 (by simp_all [und, bI]) rfl
            · refine g_iload_n dX4_isUnder_49 rfl ?_
              refine g_bipush dX4_isUnder_50 bp_6 ?_
              refine g_icmp_ne 59 dX4_isUnder_52 (by decide) (fun c52 => ?_) (fun c52 => ?_)
              · refine g_iconst dX4_isUnder_59 ic_0 ?_
                exact g_ireturn dX4_isUnder_60 (by simp_all [und, bI]) rfl
              · refine g_iconst dX4_isUnder_55 ic_1 ?_
                refine g_goto 60 dX4_isUnder_56 (by decide) ?_
                exact g_ireturn dX4_isUnder_60 (by simp_all [und, bI]) rfl
          · refine g_iload_n dX4_isUnder_39 rfl ?_
            refine g_iconst dX4_isUnder_40 ic_4 ?_
            refine g_icmp_eq 55 dX4_isUnder_41 (by decide) (fun c41 => ?_) (fun c41 => ?_)
            · refine g_iconst dX4_isUnder_55 ic_1 ?_
              refine g_goto 60 dX4_isUnder_56 (by decide) ?_
              exact g_ireturn dX4_isUnder_60 (by simp_all [und, bI]) rfl
            · refine g_iload_n dX4_isUnder_44 rfl ?_
              refine g_iconst dX4_isUnder_45 ic_1 ?_
              refine g_icmp_ne 59 dX4_isUnder_46 (by decide) (fun c46 => ?_) (fun c46 => ?_)
              · refine g_iconst dX4_isUnder_59 ic_0 ?_
                exact g_ireturn dX4_isUnder_60 (by simp_all [und, bI]) rfl
              · refine g_iload_n dX4_isUnder_49 rfl ?_
                refine g_bipush dX4_isUnder_50 bp_6 ?_
                refine g_icmp_ne 59 dX4_isUnder_52 (by decide) (fun c52 => ?_) (fun c52 => ?_)
                · refine g_iconst dX4_isUnder_59 ic_0 ?_
                  exact g_ireturn dX4_isUnder_60 (by simp_all [und, bI]) rfl
                · refine g_iconst dX4_isUnder_55 ic_1 ?_
                  refine g_goto 60 dX4_isUnder_56 (by decide) ?_
                  exact g_ireturn dX4_isUnder_60 (by simp_all [und, bI]) rfl
        · refine g_iload_n dX4_isUnder_30 rfl ?_
          refine g_if_ne 55 dX4_isUnder_31 (by decide) (fun c31 => ?_) (fun c31 => ?_)
          · refine g_iconst dX4_isUnder_55 ic_1 ?_
            refine g_goto 60 dX4_isUnder_56 (by decide) ?_
            exact g_ireturn dX4_isUnder_60 (by simp_all [und, bI]) rfl
          · refine g_iload_n dX4_isUnder_34 rfl ?_
            refine g_iconst dX4_isUnder_35 ic_3 ?_
            refine g_icmp_ne 44 dX4_isUnder_36 (by decide) (fun c36 => ?_) (fun c36 => ?_)
            · refine g_iload_n dX4_isUnder_44 rfl ?_
              refine g_iconst dX4_isUnder_45 ic_1 ?_
              refine g_icmp_ne 59 dX4_isUnder_46 (by decide) (fun c46 => ?_) (fun c46 => ?_)
              · refine g_iconst dX4_isUnder_59 ic_0 ?_
                exact g_ireturn dX4_isUnder_60 (by simp_all [und, bI]) rfl
              · refine g_iload_n dX4_isUnder_49 rfl ?_
                refine g_bipush dX4_isUnder_50 bp_6 ?_
                refine g_icmp_ne 59 dX4_isUnder_52 (by decide) (fun c52 => ?_) (fun c52 => ?_)
                · refine g_iconst dX4_isUnder_59 ic_0 ?_
                  exact g_ireturn dX4_isUnder_60 (by simp_all [und, bI]) rfl
                · refine g_iconst dX4_isUnder_55 ic_1 ?_
                  refine g_goto 60 dX4_isUnder_56 (by decide) ?_
                  exact g_ireturn dX4_isUnder_60 (by simp_all [und, bI]) rfl
            · refine g_iload_n dX4_isUnder_39 rfl ?_
              refine g_iconst dX4_isUnder_40 ic_4 ?_
              refine g_icmp_eq 55 dX4_isUnder_41 (by decide) (fun c41 => ?_) (fun c41 => ?_)
              · refine g_iconst dX4_isUnder_55 ic_1 ?_
                refine g_goto 60 dX4_isUnder_56 (by decide) ?_
                exact g_ireturn dX4_isUnder_60 (by simp_all [und, bI]) rfl
              · refine g_iload_n dX4_isUnder_44 rfl ?_
                refine g_iconst dX4_isUnder_45 ic_1 ?_
                refine g_icmp_ne 59 dX4_isUnder_46 (by decide) (fun c46 => ?_) (fun c46 => ?_)
                · refine g_iconst dX4_isUnder_59 ic_0 ?_
                  exact g_ireturn dX4_isUnder_60 (by simp_all [und, bI]) rfl
                · refine g_iload_n dX4_isUnder_49 rfl ?_
                  refine g_bipush dX4_isUnder_50 bp_6 ?_
                  refine g_icmp_ne 59 dX4_isUnder_52 (by decide) (fun c52 => ?_) (fun c52 => ?_)
                  · refine g_iconst dX4_isUnder_59 ic_0 ?_
                    exact g_ireturn dX4_isUnder_60 (by simp_all [und, bI]) rfl
                  · refine g_iconst dX4_isUnder_55 ic_1 ?_
                    refine g_goto 60 dX4_isUnder_56 (by decide) ?_
                    exact g_ireturn dX4_isUnder_60 (by simp_all [und, bI]) rfl
  · refine g_iload_n dX4_isUnder_5 rfl ?_
    refine g_iconst dX4_isUnder_6 ic_4 ?_
    refine g_icmp_ne 14 dX4_isUnder_7 (by decide) (fun c7 => ?_) (fun c7 => ?_)
    · refine g_iconst dX4_isUnder_14 ic_0 ?_
      refine g_istore_n dX4_isUnder_15 (by decide) rfl ?_
      refine g_iload_n dX4_isUnder_16 rfl ?_
      refine g_if_eq 55 dX4_isUnder_17 (by decide) (fun c17 => ?_) (fun c17 => ?_)
      · refine g_iconst dX4_isUnder_55 ic_1 ?_
        refine g_goto 60 dX4_isUnder_56 (by decide) ?_
        exact g_ireturn dX4_isUnder_60 (by simp_all [und, bI]) rfl
      · refine g_iload_n dX4_isUnder_20 rfl ?_
        refine g_iload_n dX4_isUnder_21 rfl ?_
        refine g_icmp_eq 55 dX4_isUnder_22 (by decide) (fun c22 => ?_) (fun c22 => ?_)
        · refine g_iconst dX4_isUnder_55 ic_1 ?_
          refine g_goto 60 dX4_isUnder_56 (by decide) ?_
          exact g_ireturn dX4_isUnder_60 (by simp_all [und, bI]) rfl
        · refine g_iload_n dX4_isUnder_25 rfl ?_
          refine g_iconst dX4_isUnder_26 ic_2 ?_
          refine g_icmp_ne 34 dX4_isUnder_27 (by decide) (fun c27 => ?_) (fun c27 => ?_)
          · refine g_iload_n dX4_isUnder_34 rfl ?_
            refine g_iconst dX4_isUnder_35 ic_3 ?_
            refine g_icmp_ne 44 dX4_isUnder_36 (by decide) (fun c36 => ?_) (fun c36 => ?_)
            · refine g_iload_n dX4_isUnder_44 rfl ?_
              refine g_iconst dX4_isUnder_45 ic_1 ?_
              refine g_icmp_ne 59 dX4_isUnder_46 (by decide) (fun c46 => ?_) (fun c46 => ?_)
              · refine g_iconst dX4_isUnder_59 ic_0 ?_
                exact g_ireturn dX4_isUnder_60 (by simp_all [und, bI]) rfl
              · refine g_iload_n dX4_isUnder_49 rfl ?_
                refine g_bipush dX4_isUnder_50 bp_6 ?_
                refine g_icmp_ne 59 dX4_isUnder_52 (by decide) (fun c52 => ?_) (fun c52 => ?_)
                · refine g_iconst dX4_isUnder_59 ic_0 ?_
                  exact g_ireturn dX4_isUnder_60 (by simp_all [und, bI]) rfl
                · refine g_iconst dX4_isUnder_55 ic_1 ?_
                  refine g_goto 60 dX4_isUnder_56 (by decide) ?_
                  exact g_ireturn dX4_isUnder_60 (by simp_all [und, bI]) rfl
            · refine g_iload_n dX4_isUnder_39 rfl ?_
              refine g_iconst dX4_isUnder_40 ic_4 ?_
              refine g_icmp_eq 55 dX4_isUnder_41 (by decide) (fun c41 => ?_) (fun c41 => ?_)
              · refine g_iconst dX4_isUnder_55 ic_1 ?_
                refine g_goto 60 dX4_isUnder_56 (by decide) ?_
                exact g_ireturn dX4_isUnder_60 (by simp_all [und, bI]) rfl
              · refine g_iload_n dX4_isUnder_44 rfl ?_
                refine g_iconst dX4_isUnder_45 ic_1 ?_
                refine g_icmp_ne 59 dX4_isUnder_46 (by decide) (fun c46 => ?_) (fun c46 => ?_)
                · refine g_iconst dX4_isUnder_59 ic_0 ?_
                  exact g_ireturn dX4_isUnder_60 (by simp_all [und, bI]) rfl
                · refine g_iload_n dX4_isUnder_49 rfl ?_
                  refine g_bipush dX4_isUnder_50 bp_6 ?_
                  refine g_icmp_ne 59 dX4_isUnder_52 (by decide) (fun c52 => ?_) (fun c52 => ?_)
                  · refine g_iconst dX4_isUnder_59 ic_0 ?_
                    exact g_ireturn dX4_isUnder_60 (by simp_all [und, bI]) rfl
                  · refine g_iconst dX4_isUnder_55 ic_1 ?_
                    refine g_goto 60 dX4_isUnder_56 (by decide) ?_
                    exact g_ireturn dX4_isUnder_60 (by simp_all [und, bI]) rfl
          · refine g_iload_n dX4_isUnder_30 rfl ?_
            refine g_if_ne 55 dX4_isUnder_31 (by decide) (fun c31 => ?_) (fun c31 => ?_)
            · refine g_iconst dX4_isUnder_55 ic_1 ?_
              refine g_goto 60 dX4_isUnder_56 (by decide) ?_
              exact g_ireturn dX4_isUnder_60 (by simp_all [und, bI]) rfl
            · refine g_iload_n dX4_isUnder_34 rfl ?_
              refine g_iconst dX4_isUnder_35 ic_3 ?_
              refine g_icmp_ne 44 dX4_isUnder_36 (by decide) (fun c36 => ?_) (fun c36 => ?_)
              · refine g_iload_n dX4_isUnder_44 rfl ?_
                refine g_iconst dX4_isUnder_45 ic_1 ?_
                refine g_icmp_ne 59 dX4_isUnder_46 (by decide) (fun c46 => ?_) (fun c46 => ?_)
                · refine g_iconst dX4_isUnder_59 ic_0 ?_
                  exact g_ireturn dX4_isUnder_60 (by simp_all [und, bI]) rfl
                · refine g_iload_n dX4_isUnder_49 rfl ?_
                  refine g_bipush dX4_isUnder_50 bp_6 ?_
                  refine g_icmp_ne 59 dX4_isUnder_52 (by decide) (fun c52 => ?_) (fun c52 => ?_)
                  · refine g_iconst dX4_isUnder_59 ic_0 ?_
                    exact g_ireturn dX4_isUnder_60 (by simp_all [und, bI]) rfl
                  · refine g_iconst dX4_isUnder_55 ic_1 ?_
                    refine g_goto 60 dX4_isUnder_56 (by decide) ?_
                    exact g_ireturn dX4_isUnder_60 (by simp_all [und, bI]) rfl
              · refine g_iload_n dX4_isUnder_39 rfl ?_
                refine g_iconst dX4_isUnder_40 ic_4 ?_
                refine g_icmp_eq 55 dX4_isUnder_41 (by decide) (fun c41 => ?_) (fun c41 => ?_)
                · refine g_iconst dX4_isUnder_55 ic_1 ?_
                  refine g_goto 60 dX4_isUnder_56 (by decide) ?_
                  exact g_ireturn dX4_isUnder_60 (by simp_all [und, bI]) rfl
                · refine g_iload_n dX4_isUnder_44 rfl ?_
                  refine g_iconst dX4_isUnder_45 ic_1 ?_
                  refine g_icmp_ne 59 dX4_isUnder_46 (by decide) (fun c46 => ?_) (fun c46 => ?_)
                  · refine g_iconst dX4_isUnder_59 ic_0 ?_
                    exact g_ireturn dX4_isUnder_60 (by simp_all [und, bI]) rfl
                  · refine g_iload_n dX4_isUnder_49 rfl ?_
                    refine g_bipush dX4_isUnder_50 bp_6 ?_
                    refine g_icmp_ne 59 dX4_isUnder_52 (by decide) (fun c52 => ?_) (fun c52 => ?_)
                    · refine g_iconst dX4_isUnder_59 ic_0 ?_
                      exact g_ireturn dX4_isUnder_60 (by simp_all [und, bI]) rfl
                    · refine g_iconst dX4_isUnder_55 ic_1 ?_
                      refine g_goto 60 dX4_isUnder_56 (by decide) ?_
                      exact g_ireturn dX4_isUnder_60 (by simp_all [und, bI]) rfl
    · refine g_iconst dX4_isUnder_10 ic_1 ?_
      refine g_goto 15 dX4_isUnder_11 (by decide) ?_
      refine g_istore_n dX4_isUnder_15 (by decide) rfl ?_
      refine g_iload_n dX4_isUnder_16 rfl ?_
      refine g_if_eq 55 dX4_isUnder_17 (by decide) (fun c17 => ?_) (fun c17 => ?_)
      · refine g_iconst dX4_isUnder_55 ic_1 ?_
        refine g_goto 60 dX4_isUnder_56 (by decide) ?_
        exact g_ireturn dX4_isUnder_60 (by simp_all [und, bI]) rfl
      · refine g_iload_n dX4_isUnder_20 rfl ?_
        refine g_iload_n dX4_isUnder_21 rfl ?_
        refine g_icmp_eq 55 dX4_isUnder_22 (by decide) (fun c22 => ?_) (fun c22 => ?_)
        · refine g_iconst dX4_isUnder_55 ic_1 ?_
          refine g_goto 60 dX4_isUnder_56 (by decide) ?_
          exact g_ireturn dX4_isUnder_60 (by simp_all [und, bI]) rfl
        · refine g_iload_n dX4_isUnder_25 rfl ?_
          refine g_iconst dX4_isUnder_26 ic_2 ?_
          refine g_icmp_ne 34 dX4_isUnder_27 (by decide) (fun c27 => ?_) (fun c27 => ?_)
          · refine g_iload_n dX4_isUnder_34 rfl ?_
            refine g_iconst dX4_isUnder_35 ic_3 ?_
            refine g_icmp_ne 44 dX4_isUnder_36 (by decide) (fun c36 => ?_) (fun c36 => ?_)
            · refine g_iload_n dX4_isUnder_44 rfl ?_
              refine g_iconst dX4_isUnder_45 ic_1 ?_
              refine g_icmp_ne 59 dX4_isUnder_46 (by decide) (fun c46 => ?_) (fun c46 => ?_)
              · refine g_iconst dX4_isUnder_59 ic_0 ?_
                exact g_ireturn dX4_isUnder_60 (by simp_all [und, bI]) rfl
              · refine g_iload_n dX4_isUnder_49 rfl ?_
                refine g_bipush dX4_isUnder_50 bp_6 ?_
                refine g_icmp_ne 59 dX4_isUnder_52 (by decide) (fun c52 => ?_) (fun c52 => ?_)
                · refine g_iconst dX4_isUnder_59 ic_0 ?_
                  exact g_ireturn dX4_isUnder_60 (by simp_all [und, bI]) rfl
                · refine g_iconst dX4_isUnder_55 ic_1 ?_
                  refine g_goto 60 dX4_isUnder_56 (by decide) ?_
                  exact g_ireturn dX4_isUnder_60 (by simp_all [und, bI]) rfl
            · refine g_iload_n dX4_isUnder_39 rfl ?_
              refine g_iconst dX4_isUnder_40 ic_4 ?_
              refine g_icmp_eq 55 dX4_isUnder_41 (by decide) (fun c41 => ?_) (fun c41 => ?_)
              · refine g_iconst dX4_isUnder_55 ic_1 ?_
                refine g_goto 60 dX4_isUnder_56 (by decide) ?_
                exact g_ireturn dX4_isUnder_60 (by simp_all [und, bI]) rfl
              · refine g_iload_n dX4_isUnder_44 rfl ?_
                refine g_iconst dX4_isUnder_45 ic_1 ?_
                refine g_icmp_ne 59 dX4_isUnder_46 (by decide) (fun c46 => ?_) (fun c46 => ?_)
                · refine g_iconst dX4_isUnder_59 ic_0 ?_
                  exact g_ireturn dX4_isUnder_60 (by simp_all [und, bI]) rfl
                · refine g_iload_n dX4_isUnder_49 rfl ?_
                  refine g_bipush dX4_isUnder_50 bp_6 ?_
                  refine g_icmp_ne 59 dX4_isUnder_52 (by decide) (fun c52 => ?_) (fun c52 => ?_)
                  · refine g_iconst dX4_isUnder_59 ic_0 ?_
                    exact g_ireturn dX4_isUnder_60 (by simp_all [und, bI]) rfl
                  · refine g_iconst dX4_isUnder_55 ic_1 ?_
                    refine g_goto 60 dX4_isUnder_56 (by decide) ?_
                    exact g_ireturn dX4_isUnder_60 (by simp_all [und, bI]) rfl
          · refine g_iload_n dX4_isUnder_30 rfl ?_
            refine g_if_ne 55 dX4_isUnder_31 (by decide) (fun c31 => ?_) (fun c31 => ?_)
            · refine g_iconst dX4_isUnder_55 ic_1 ?_
              refine g_goto 60 dX4_isUnder_56 (by decide) ?_
              exact g_ireturn dX4_isUnder_60 (by simp_all [und, bI]) rfl
            · refine g_iload_n dX4_isUnder_34 rfl ?_
              refine g_iconst dX4_isUnder_35 ic_3 ?_
              refine g_icmp_ne 44 dX4_isUnder_36 (by decide) (fun c36 => ?_) (fun c36 => ?_)
              · refine g_iload_n dX4_isUnder_44 rfl ?_
                refine g_iconst dX4_isUnder_45 ic_1 ?_
                refine g_icmp_ne 59 dX4_isUnder_46 (by decide) (fun c46 => ?_) (fun c46 => ?_)
                · refine g_iconst dX4_isUnder_59 ic_0 ?_
                  exact g_ireturn dX4_isUnder_60 (by simp_all [und, bI]) rfl
                · refine g_iload_n dX4_isUnder_49 rfl ?_
                  refine g_bipush dX4_isUnder_50 bp_6 ?_
                  refine g_icmp_ne 59 dX4_isUnder_52 (by decide) (fun c52 => ?_) (fun c52 => ?_)
                  · refine g_iconst dX4_isUnder_59 ic_0 ?_
                    exact g_ireturn dX4_isUnder_60 (by simp_all [und, bI]) rfl
                  · refine g_iconst dX4_isUnder_55 ic_1 ?_
                    refine g_goto 60 dX4_isUnder_56 (by decide) ?_
                    exact g_ireturn dX4_isUnder_60 (by simp_all [und, bI]) rfl
              · refine g_iload_n dX4_isUnder_39 rfl ?_
                refine g_iconst dX4_isUnder_40 ic_4 ?_
                refine g_icmp_eq 55 dX4_isUnder_41 (by decide) (fun c41 => ?_) (fun c41 => ?_)
                · refine g_iconst dX4_isUnder_55 ic_1 ?_
                  refine g_goto 60 dX4_isUnder_56 (by decide) ?_
                  exact g_ireturn dX4_isUnder_60 (by simp_all [und, bI]) rfl
                · refine g_iload_n dX4_isUnder_44 rfl ?_
                  refine g_iconst dX4_isUnder_45 ic_1 ?_
                  refine g_icmp_ne 59 dX4_isUnder_46 (by decide) (fun c46 => ?_) (fun c46 => ?_)
                  · refine g_iconst dX4_isUnder_59 ic_0 ?_
                    exact g_ireturn dX4_isUnder_60 (by simp_all [und, bI]) rfl
                  · refine g_iload_n dX4_isUnder_49 rfl ?_
                    refine g_bipush dX4_isUnder_50 bp_6 ?_
                    refine g_icmp_ne 59 dX4_isUnder_52 (by decide) (fun c52 => ?_) (fun c52 => ?_)
                    · refine g_iconst dX4_isUnder_59 ic_0 ?_
                      exact g_ireturn dX4_isUnder_60 (by simp_all [und, bI]) rfl
                    · refine g_iconst dX4_isUnder_55 ic_1 ?_
                      refine g_goto 60 dX4_isUnder_56 (by decide) ?_
                      exact g_ireturn dX4_isUnder_60 (by simp_all [und, bI]) rfl

set_option maxRecDepth 100000 in
set_option maxHeartbeats 4000000 in
theorem c_X4_as {X : Sc} {h : Hp} (hI : In (h 11)) {s k : Int32} : Ct X yX4_as cX4_as 4 (some .int) 2 [.ref 28, .int s, .int k] h (some (.int (oV (f_as (h 11) s k)))) (oM h (f_as (h 11) s k)) := by
  refine ⟨rfl, ?_⟩
  refine g_iload_n dX4_as_0 rfl ?_
  refine g_iconst dX4_as_1 ic_0 ?_
  refine g_bipush dX4_as_2 bp_9 ?_
  refine g_callS3i (c_X4_in) mi_X4_in ms_X4_in ml_X4_40 dX4_as_4 (by decide) (Nat.le_of_ble_eq_true rfl) (Nat.le_of_ble_eq_true rfl) ?_
  refine g_if_eq 20 dX4_as_7 (by decide) (fun c7 => ?_) (fun c7 => ?_)
  · refine g_aload_n dX4_as_20 rfl ?_
    refine g_ldc dX4_as_21 lc_X4_34 ?_
    refine g_callV1i (c_X4_finds 0 (by decide) (by decide)) mi_X4_finds mv_X4_finds ml_X4_36 dX4_as_23 rfl rfl (by decide) (Nat.le_of_ble_eq_true rfl) (Nat.le_of_ble_eq_true rfl) ?_
    exact g_ireturn dX4_as_26 (by simp_all [f_as, oV, fvl_0, fvl_1, fvl_2, fvl_3, fvl_4, fvl_5, fvl_6, bI_0]) (by simp_all [f_as, oM, bI_0, setg_id])
  · refine g_iload_n dX4_as_10 rfl ?_
    refine g_iconst dX4_as_11 ic_0 ?_
    refine g_bipush dX4_as_12 bp_6 ?_
    refine g_callS3i (c_X4_in) mi_X4_in ms_X4_in ml_X4_40 dX4_as_14 (by decide) (Nat.le_of_ble_eq_true rfl) (Nat.le_of_ble_eq_true rfl) ?_
    refine g_if_ne 27 dX4_as_17 (by decide) (fun c17 => ?_) (fun c17 => ?_)
    · obtain ⟨j, hj, tj, rfl⟩ := inB_of 9 (by decide) (nb0 c7)
      have hP : (inB (nI j) 0 9 && inB k 0 6) = true := by simp_all [bI_0]
      refine g_aload_n dX4_as_27 rfl ?_
      refine g_getR dX4_as_28 fl_X4_9 rfl rfl ?_
      refine g_bipush dX4_as_31 bp_88 ?_
      refine g_iload_n dX4_as_33 rfl ?_
      refine g_iadd dX4_as_34 ?_
      refine g_iald0 (88 + j) dX4_as_35 rfl (jx88 j) (by omega) ?_
      refine g_istore_n dX4_as_36 (by decide) rfl ?_
      refine g_iload_n dX4_as_37 rfl ?_
      refine g_if_ge 48 dX4_as_38 (by decide) (fun c38 => ?_) (fun c38 => ?_)
      · have isd : ∃ e, e < 8 ∧ tn (nI e) = e ∧ h 11 (88 + j) = nI e ∧ isD (h 11) (h 11 (88 + j)) = true := by
          rcases hI.2 j (by omega) with q | ⟨x, hx, ex⟩
          · rw [q] at c38; exact absurd c38 (by decide)
          · have n8 := hI.nD
            exact ⟨x, by omega, nI_clamp (by omega), ex, by rw [ex, isD_nI n8.2 (by omega) (by omega)]; exact decide_eq_true hx⟩
        obtain ⟨e, he, te, ee, dd⟩ := isd
        refine g_aload_n dX4_as_48 rfl ?_
        refine g_iload_n dX4_as_49 rfl ?_
        refine g_st (st2 := [.int (nI e), .ref 28]) (by rw [ee]) ?_
        refine g_iconst dX4_as_50 ic_0 ?_
        refine g_callV2i (c_X4_it (w := 0) he (by decide)) mi_X4_it mv_X4_it ml_X4_48 dX4_as_51 rfl rfl (by decide) (Nat.le_of_ble_eq_true rfl) (Nat.le_of_ble_eq_true rfl) ?_
        refine g_iload_n dX4_as_54 rfl ?_
        refine g_callS2i (c_X4_isUnder) mi_X4_isUnder ms_X4_isUnder ml_X4_240 dX4_as_55 (by decide) (Nat.le_of_ble_eq_true rfl) (Nat.le_of_ble_eq_true rfl) ?_
        refine g_if_eq 65 dX4_as_58 (by decide) (fun c58 => ?_) (fun c58 => ?_)
        · refine g_aload_n dX4_as_65 rfl ?_
          refine g_ldc dX4_as_66 lc_X4_243 ?_
          refine g_callV1i (c_X4_finds 2 (by decide) (by decide)) mi_X4_finds mv_X4_finds ml_X4_36 dX4_as_68 rfl rfl (by decide) (Nat.le_of_ble_eq_true rfl) (Nat.le_of_ble_eq_true rfl) ?_
          exact g_ireturn dX4_as_71 (by first | (rw [f_as, if_pos hP, tj, if_pos dd, ee, te, if_neg (by rw [b0 c58]; decide)]; rfl) | (rw [f_as, if_pos hP, tj, if_pos dd, ee, te, if_pos (nb0 c58)]; rfl)) (by first | (rw [f_as, if_pos hP, tj, if_pos dd, ee, te, if_neg (by rw [b0 c58]; decide)]; rfl) | (rw [f_as, if_pos hP, tj, if_pos dd, ee, te, if_pos (nb0 c58)]; simp only [oM]; rw [setg_id]))
        · refine g_iload_n dX4_as_61 rfl ?_
          refine g_goto 71 dX4_as_62 (by decide) ?_
          exact g_ireturn dX4_as_71 (by first | (rw [f_as, if_pos hP, tj, if_pos dd, ee, te, if_neg (by rw [b0 c58]; decide)]; rfl) | (rw [f_as, if_pos hP, tj, if_pos dd, ee, te, if_pos (nb0 c58)]; rfl)) (by first | (rw [f_as, if_pos hP, tj, if_pos dd, ee, te, if_neg (by rw [b0 c58]; decide)]; rfl) | (rw [f_as, if_pos hP, tj, if_pos dd, ee, te, if_pos (nb0 c58)]; simp only [oM]; rw [setg_id]))
      · have nd : isD (h 11) (h 11 (88 + j)) = false := by unfold isD; rw [decide_eq_true (Int32.not_le.mp c38)]; rfl
        refine g_aload_n dX4_as_41 rfl ?_
        refine g_ldc dX4_as_42 lc_X4_173 ?_
        refine g_callV1i (c_X4_finds 5 (by decide) (by decide)) mi_X4_finds mv_X4_finds ml_X4_36 dX4_as_44 rfl rfl (by decide) (Nat.le_of_ble_eq_true rfl) (Nat.le_of_ble_eq_true rfl) ?_
        exact g_ireturn dX4_as_47 (by rw [f_as, if_pos hP, tj, if_neg (by rw [nd]; decide)]; rfl) (by rw [f_as, if_pos hP, tj, if_neg (by rw [nd]; decide)]; rfl)
    · refine g_aload_n dX4_as_20 rfl ?_
      refine g_ldc dX4_as_21 lc_X4_34 ?_
      refine g_callV1i (c_X4_finds 0 (by decide) (by decide)) mi_X4_finds mv_X4_finds ml_X4_36 dX4_as_23 rfl rfl (by decide) (Nat.le_of_ble_eq_true rfl) (Nat.le_of_ble_eq_true rfl) ?_
      exact g_ireturn dX4_as_26 (by simp_all [f_as, oV, fvl_0, fvl_1, fvl_2, fvl_3, fvl_4, fvl_5, fvl_6, bI_0]) (by simp_all [f_as, oM, bI_0, setg_id])

set_option maxRecDepth 100000 in
set_option maxHeartbeats 4000000 in
theorem c_X4_draw {X : Sc} {h : Hp} : Ct X yX4_draw cX4_draw 1 (some .int) 0 [.ref 28] h (some (.int (drwV (h 11 1)))) (setg h 11 (upd (h 11) 1 (drwZ (h 11 1)))) := by
  refine ⟨rfl, ?_⟩
  refine g_aload_n dX4_draw_0 rfl ?_
  refine g_getR dX4_draw_1 fl_X4_9 rfl rfl ?_
  refine g_iconst dX4_draw_4 ic_1 ?_
  refine g_aload_n dX4_draw_5 rfl ?_
  refine g_getR dX4_draw_6 fl_X4_9 rfl rfl ?_
  refine g_iconst dX4_draw_9 ic_1 ?_
  refine g_iald0 1 dX4_draw_10 rfl rfl (by decide) ?_
  refine g_ldc dX4_draw_11 lc_X4_180 ?_
  refine g_imul dX4_draw_13 ?_
  refine g_sipush dX4_draw_14 sp_12345 ?_
  refine g_iadd dX4_draw_17 ?_
  refine g_iast0 1 dX4_draw_18 rfl rfl (by decide) ?_
  refine g_aload_n dX4_draw_19 rfl ?_
  refine g_getR dX4_draw_20 fl_X4_9 rfl rfl ?_
  refine g_iconst dX4_draw_23 ic_1 ?_
  refine g_iald0 1 dX4_draw_24 rfl rfl (by decide) ?_
  refine g_bipush dX4_draw_25 bp_8 ?_
  refine g_iushr dX4_draw_27 ?_
  exact g_ireturn dX4_draw_28 (by simp [up_s, drwV, drwZ]) (up_setg _ _ _ _)

set_option maxRecDepth 100000 in
set_option maxHeartbeats 4000000 in
theorem l_X4_coach {X : Sc} {h : Hp} (hI : In (h 11)) {n : Nat} (hn : n ≤ 20) : ∀ k, k ≤ n → Go X RX4 cX4_coach 4 5 39 [.ref 28, .int (nI n), .int (nI k), .null] [] (setg h 11 (coaN (h 11) k)) (some (.int (bilS (coaN (h 11) n) (nG (coaN (h 11) n))))) (setg h 11 (coaN (h 11) n)) := by
  refine loop_up (n) ?_ ?_
  · refine g_iload_n dX4_coach_39 rfl ?_
    refine g_iload_n dX4_coach_40 rfl ?_
    refine g_icmp_ge 90 dX4_coach_41 (by decide) (fun c41 => ?_) (fun c41 => ?_)
    · refine g_aload_n dX4_coach_90 rfl ?_
      refine g_callV0i (c_X4_bills (by rw [setg_s]; exact In_coaN hI n)) mi_X4_bills mv_X4_bills ml_X4_118 dX4_coach_91 rfl rfl (by decide) (Nat.le_of_ble_eq_true rfl) (Nat.le_of_ble_eq_true rfl) ?_
      refine g_st (st2 := [.int (bilS (coaN (h 11) n) (nG (coaN (h 11) n)))]) (by rw [setg_s]) ?_
      exact g_ireturn dX4_coach_94 rfl rfl
    · exact (lp_yes ((rfl : nI n = nI n)) (by omega) c41).elim
  · intro k hk ih
    have hM := In_coaN hI k
    obtain ⟨t, ht, e0⟩ := hM.day
    obtain ⟨a, ha, ta, ea⟩ := drw_of (coaN (h 11) k 1)
    obtain ⟨b, hb, tb, eb⟩ := drw_of (drwZ (coaN (h 11) k 1))
    have et : tn (coaN (h 11) k 0) = t := by rw [e0]; exact nI_clamp (by omega)
    refine g_iload_n dX4_coach_39 rfl ?_
    refine g_iload_n dX4_coach_40 rfl ?_
    refine g_icmp_ge 90 dX4_coach_41 (by decide) (fun c41 => ?_) (fun c41 => ?_)
    · exact (lp_no ((rfl : nI n = nI n)) (by omega) hk c41).elim
    · refine g_aload_n dX4_coach_44 rfl ?_
      refine g_callV0i (c_X4_draw) mi_X4_draw mv_X4_draw ml_X4_181 dX4_coach_45 rfl rfl (by decide) (Nat.le_of_ble_eq_true rfl) (Nat.le_of_ble_eq_true rfl) ?_
      refine g_h (by rw [setg_s, setg_2]) ?_
      refine g_st (st2 := [.int (nI a)]) (by rw [setg_s, ea]) ?_
      refine g_bipush dX4_coach_48 bp_6 ?_
      refine g_irem dX4_coach_50 (by decide) ?_
      refine g_st (st2 := [.int (nI (a % 6))]) (by rw [rem6 (by omega)]) ?_
      refine g_istore_n dX4_coach_51 (by decide) rfl ?_
      refine g_aload_n dX4_coach_52 rfl ?_
      refine g_getR dX4_coach_53 fl_X4_9 rfl rfl ?_
      refine g_iconst dX4_coach_56 ic_4 ?_
      refine g_aload_n dX4_coach_57 rfl ?_
      refine g_getR dX4_coach_58 fl_X4_9 rfl rfl ?_
      refine g_iconst dX4_coach_61 ic_0 ?_
      refine g_iald0 0 dX4_coach_62 rfl rfl (by decide) ?_
      refine g_st (st2 := [.int (nI t), .int 4, .ref 29]) (by rw [setg_s, upd_n _ _ (by decide), e0]) ?_
      refine g_bipush dX4_coach_63 bp_6 ?_
      refine g_irem dX4_coach_65 (by decide) ?_
      refine g_iadd dX4_coach_66 ?_
      refine g_st (st2 := [.int (nI (4 + t % 6)), .ref 29]) (by rw [rem6 (by omega), jx4]) ?_
      refine g_bipush dX4_coach_67 bp_10 ?_
      refine g_iload_n dX4_coach_69 rfl ?_
      refine g_imul dX4_coach_70 ?_
      refine g_aload_n dX4_coach_71 rfl ?_
      refine g_callV0i (c_X4_draw) mi_X4_draw mv_X4_draw ml_X4_181 dX4_coach_72 rfl rfl (by decide) (Nat.le_of_ble_eq_true rfl) (Nat.le_of_ble_eq_true rfl) ?_
      refine g_h (by rw [setg_s, setg_2]) ?_
      refine g_st (st2 := [.int (nI b), .int (10 * nI (a % 6)), .int (nI (4 + t % 6)), .ref 29]) (by rw [setg_s, upd_s, eb]) ?_
      refine g_bipush dX4_coach_75 bp_8 ?_
      refine g_irem dX4_coach_77 (by decide) ?_
      refine g_st (st2 := [.int (nI (b % 8)), .int (10 * nI (a % 6)), .int (nI (4 + t % 6)), .ref 29]) (by rw [rem8 (by omega)]) ?_
      refine g_iadd dX4_coach_78 ?_
      refine g_iast0 (4 + t % 6) dX4_coach_79 rfl rfl (by omega) ?_
      refine g_h (by rw [up_setg, setg_s, setg_2]) ?_
      refine g_aload_n dX4_coach_80 rfl ?_
      refine g_callV0v (c_X4_goes (by rw [setg_s, upd_2, upd_s, show (10 : Int32) = nI 10 from rfl, pk_mul, nI_add]; exact In_coa0 hM _ (Nat.mod_lt _ (by decide)) (Nat.mod_lt _ (by decide)) (Nat.mod_lt _ (by decide)))) mi_X4_goes mv_X4_goes ml_X4_111 dX4_coach_81 rfl rfl (by decide) (Nat.le_of_ble_eq_true rfl) (Nat.le_of_ble_eq_true rfl) ?_
      refine g_iinc dX4_coach_84 rfl (ii_n _) (by decide) rfl ?_
      refine g_goto 39 dX4_coach_87 (by decide) ?_
      refine g_mask [true, true, true, false] ?_
      exact g_h (by rw [setg_s, setg_2, coa_row et ta tb]; rfl) ih

set_option maxRecDepth 100000 in
set_option maxHeartbeats 4000000 in
theorem c_X4_coach {X : Sc} {h : Hp} (hI : In (h 11)) {n : Int32} : Ct X yX4_coach cX4_coach 4 (some .int) 5 [.ref 28, .int n] h (some (.int (oV (f_coach (h 11) n)))) (oM h (f_coach (h 11) n)) := by
  refine ⟨rfl, ?_⟩
  refine g_iload_n dX4_coach_0 rfl ?_
  refine g_iconst dX4_coach_1 ic_1 ?_
  refine g_bipush dX4_coach_2 bp_20 ?_
  refine g_callS3i (c_X4_in) mi_X4_in ms_X4_in ml_X4_40 dX4_coach_4 (by decide) (Nat.le_of_ble_eq_true rfl) (Nat.le_of_ble_eq_true rfl) ?_
  refine g_if_ne 17 dX4_coach_7 (by decide) (fun c7 => ?_) (fun c7 => ?_)
  · obtain ⟨j, l1, hj, tj, rfl⟩ := inB_of1 20 (by decide) (nb0 c7)
    refine g_aload_n dX4_coach_17 rfl ?_
    refine g_getR dX4_coach_18 fl_X4_9 rfl rfl ?_
    refine g_iconst dX4_coach_21 ic_0 ?_
    refine g_iald0 0 dX4_coach_22 rfl rfl (by decide) ?_
    refine g_iload_n dX4_coach_23 rfl ?_
    refine g_iadd dX4_coach_24 ?_
    refine g_ldc dX4_coach_25 lc_X4_89 ?_
    refine g_icmp_le 37 dX4_coach_27 (by decide) (fun c27 => ?_) (fun c27 => ?_)
    · refine g_iconst dX4_coach_37 ic_0 ?_
      refine g_istore_n dX4_coach_38 (by decide) rfl ?_
      rw [f_coach, if_pos (nb0 c7), if_pos c27, tj]
      simp only [oV, oM]
      exact g_h (setg_id h 11).symm (l_X4_coach hI hj 0 (Nat.zero_le _))
    · refine g_aload_n dX4_coach_30 rfl ?_
      refine g_ldc dX4_coach_31 lc_X4_107 ?_
      refine g_callV1i (c_X4_finds 4 (by decide) (by decide)) mi_X4_finds mv_X4_finds ml_X4_36 dX4_coach_33 rfl rfl (by decide) (Nat.le_of_ble_eq_true rfl) (Nat.le_of_ble_eq_true rfl) ?_
      exact g_ireturn dX4_coach_36 (by rw [f_coach, if_pos (nb0 c7), if_neg c27]; rfl) (by rw [f_coach, if_pos (nb0 c7), if_neg c27]; rfl)
  · refine g_aload_n dX4_coach_10 rfl ?_
    refine g_ldc dX4_coach_11 lc_X4_34 ?_
    refine g_callV1i (c_X4_finds 0 (by decide) (by decide)) mi_X4_finds mv_X4_finds ml_X4_36 dX4_coach_13 rfl rfl (by decide) (Nat.le_of_ble_eq_true rfl) (Nat.le_of_ble_eq_true rfl) ?_
    exact g_ireturn dX4_coach_16 (by simp_all [f_coach, oV, fvl_0, fvl_1, fvl_2, fvl_3, fvl_4, fvl_5, fvl_6, bI_0]) (by simp_all [f_coach, oM, bI_0, setg_id])

