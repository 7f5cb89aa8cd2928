/-! IMAGES, COUNTS, SPOTS, COACHES, TOLD TOWNS: the class -/
def f_undo (ik : Int32) (kp : Rw) : Oc := if ik = 0 then .inl 3 else .inr (kp 0, kp)
def f_count (m : Rw) (t0 : Int32) (k : Int32) : Oc := if k = 0 then .inr (m 0, m) else if k = 1 then .inr (m 2, m) else if k = 2 then .inr (m 3, m) else if k = 3 then .inr (bilS m (nG m), m) else if k = 4 then .inr (srvS m (nD m), m) else if k = 5 then .inr (t0, m) else if k = 6 then .inr (m 1, m) else if k = 7 then .inr (nI (spoN m 10), m) else .inl 0
def fndS (f : Rw) : Nat → Int32
  | 0 => 0
  | n + 1 => fndS f n + f n
def f_status (f : Rw) (k : Int32) : Oc := if k = -1 then .inr (fndS f 7, f) else if inB k 0 6 then .inr (f (tn k), f) else .inl 0
def f_hold (m : Rw) (s d : Int32) : Oc := if inB s 0 9 && (decide (d = -1) || isD m d) then .inr (1, upd m (88 + tn s) d) else .inl 0
def f_as (m : Rw) (s k : Int32) : Oc := if inB s 0 9 && inB k 0 6 then (if isD m (m (88 + tn s)) then (if und (dF m (tn (m (88 + tn s))) 0) k then .inr (m (88 + tn s), m) else .inl 2) else .inl 5) else .inl 0
set_option maxRecDepth 100000 in
set_option maxHeartbeats 4000000 in
theorem c_X3_image {X : Sc} {h : Hp} : Ct X yX3_image cX3_image 1 (some .int) 2 [.ref 0] h (some (.int 1)) (up (setg h 2 (h 1)) 0 0 1) := by
  refine ⟨rfl, ?_⟩
  refine g_aload_n dX3_image_0 rfl ?_
  refine g_getR dX3_image_1 fl_X3_16 rfl rfl ?_
  refine g_aload_n dX3_image_4 rfl ?_
  refine g_getR dX3_image_5 fl_X3_12 rfl rfl ?_
  refine g_callV1v (c_X0_become inn2 inn1 (by decide) (by decide)) mi_X0_become mv_X0_become ml_X3_169 dX3_image_8 rfl rfl (by decide) (Nat.le_of_ble_eq_true rfl) (Nat.le_of_ble_eq_true rfl) ?_
  refine g_aload_n dX3_image_11 rfl ?_
  refine g_iconst dX3_image_12 ic_1 ?_
  refine g_put dX3_image_13 fl_X3_40 fp_3_6 rfl rfl rfl rfl ?_
  refine g_iconst dX3_image_16 ic_1 ?_
  exact g_ireturn dX3_image_17 rfl rfl

set_option maxRecDepth 100000 in
set_option maxHeartbeats 4000000 in
theorem c_X3_undo {X : Sc} {h : Hp} : Ct X yX3_undo cX3_undo 1 (some .int) 2 [.ref 0] h (some (.int (oV (f_undo (h 0 0) (h 2))))) (oG 1 5 h (f_undo (h 0 0) (h 2))) := by
  refine ⟨rfl, ?_⟩
  refine g_aload_n dX3_undo_0 rfl ?_
  refine g_getI dX3_undo_1 fl_X3_40 rfl rfl ?_
  refine g_if_ne 14 dX3_undo_4 (by decide) (fun c4 => ?_) (fun c4 => ?_)
  · refine g_aload_n dX3_undo_14 rfl ?_
    refine g_getR dX3_undo_15 fl_X3_12 rfl rfl ?_
    refine g_aload_n dX3_undo_18 rfl ?_
    refine g_getR dX3_undo_19 fl_X3_16 rfl rfl ?_
    refine g_callV1v (c_X0_become inn1 inn2 (by decide) (by decide)) mi_X0_become mv_X0_become ml_X3_169 dX3_undo_22 rfl rfl (by decide) (Nat.le_of_ble_eq_true rfl) (Nat.le_of_ble_eq_true rfl) ?_
    refine g_aload_n dX3_undo_25 rfl ?_
    refine g_getR dX3_undo_26 fl_X3_12 rfl rfl ?_
    refine g_getI dX3_undo_29 fl_X3_139 rfl rfl ?_
    refine g_st (st2 := [.int (h 2 0)]) (by rw [setg_s]) ?_
    exact g_ireturn dX3_undo_32 (by first | (rw [f_undo, if_pos c4]; rfl) | (rw [f_undo, if_neg c4]; rfl)) (by first | (rw [f_undo, if_pos c4]; rfl) | (rw [f_undo, if_neg c4]; rfl))
  · refine g_aload_n dX3_undo_7 rfl ?_
    refine g_ldc dX3_undo_8 lc_X3_176 ?_
    refine g_callV1i (c_X3_found 3 (by decide) (by decide)) mi_X3_found mv_X3_found ml_X3_53 dX3_undo_10 rfl rfl (by decide) (Nat.le_of_ble_eq_true rfl) (Nat.le_of_ble_eq_true rfl) ?_
    exact g_ireturn dX3_undo_13 (by first | (rw [f_undo, if_pos c4]; rfl) | (rw [f_undo, if_neg c4]; rfl)) (by first | (rw [f_undo, if_pos c4]; rfl) | (rw [f_undo, if_neg c4]; rfl))

set_option maxRecDepth 100000 in
set_option maxHeartbeats 4000000 in
theorem c_X3_tear {X : Sc} {h : Hp} : Ct X yX3_tear cX3_tear 2 (some .int) 0 [.ref 0] h (some (.int (if h 0 0 = 0 then 0 else 1))) (up h 0 0 0) := by
  refine ⟨rfl, ?_⟩
  refine g_aload_n dX3_tear_0 rfl ?_
  refine g_getI dX3_tear_1 fl_X3_40 rfl rfl ?_
  refine g_if_eq 11 dX3_tear_4 (by decide) (fun c4 => ?_) (fun c4 => ?_)
  · refine g_iconst dX3_tear_11 ic_0 ?_
    refine g_istore_n dX3_tear_12 (by decide) rfl ?_
    refine g_aload_n dX3_tear_13 rfl ?_
    refine g_iconst dX3_tear_14 ic_0 ?_
    refine g_put dX3_tear_15 fl_X3_40 fp_3_6 rfl rfl rfl rfl ?_
    refine g_iload_n dX3_tear_18 rfl ?_
    exact g_ireturn dX3_tear_19 (by first | (rw [if_pos c4]) | (rw [if_neg c4])) rfl
  · refine g_iconst dX3_tear_7 ic_1 ?_
    refine g_goto 12 dX3_tear_8 (by decide) ?_
    refine g_istore_n dX3_tear_12 (by decide) rfl ?_
    refine g_aload_n dX3_tear_13 rfl ?_
    refine g_iconst dX3_tear_14 ic_0 ?_
    refine g_put dX3_tear_15 fl_X3_40 fp_3_6 rfl rfl rfl rfl ?_
    refine g_iload_n dX3_tear_18 rfl ?_
    exact g_ireturn dX3_tear_19 (by first | (rw [if_pos c4]) | (rw [if_neg c4])) rfl

set_option maxRecDepth 100000 in
set_option maxHeartbeats 4000000 in
theorem c_X3_seed {X : Sc} {h : Hp} {v : Int32} : Ct X yX3_seed cX3_seed 3 (some .int) 0 [.ref 0, .int v] h (some (.int (h 1 1))) (setg h 1 (upd (h 1) 1 v)) := by
  refine ⟨rfl, ?_⟩
  refine g_aload_n dX3_seed_0 rfl ?_
  refine g_getR dX3_seed_1 fl_X3_12 rfl rfl ?_
  refine g_getI dX3_seed_4 fl_X3_210 rfl rfl ?_
  refine g_istore_n dX3_seed_7 (by decide) rfl ?_
  refine g_aload_n dX3_seed_8 rfl ?_
  refine g_getR dX3_seed_9 fl_X3_12 rfl rfl ?_
  refine g_iload_n dX3_seed_12 rfl ?_
  refine g_putI dX3_seed_13 fl_X3_210 fp_0_7 rfl rfl ?_
  refine g_iload_n dX3_seed_16 rfl ?_
  exact g_ireturn dX3_seed_17 rfl (up_setg _ _ _ _)

set_option maxRecDepth 100000 in
set_option maxHeartbeats 4000000 in
theorem c_X3_wipe {X : Sc} {h : Hp} : Ct X yX3_wipe cX3_wipe 2 (some .int) 0 [.ref 0] h (some (.int (h 4 0))) (setg h 4 (upd (h 4) 0 0)) := by
  refine ⟨rfl, ?_⟩
  refine g_aload_n dX3_wipe_0 rfl ?_
  refine g_getR dX3_wipe_1 fl_X3_25 rfl rfl ?_
  refine g_getI dX3_wipe_4 fl_X3_213 rfl rfl ?_
  refine g_istore_n dX3_wipe_7 (by decide) rfl ?_
  refine g_aload_n dX3_wipe_8 rfl ?_
  refine g_getR dX3_wipe_9 fl_X3_25 rfl rfl ?_
  refine g_iconst dX3_wipe_12 ic_0 ?_
  refine g_putI dX3_wipe_13 fl_X3_213 fp_2_1 rfl rfl ?_
  refine g_iload_n dX3_wipe_16 rfl ?_
  exact g_ireturn dX3_wipe_17 rfl (up_setg _ _ _ _)

set_option maxRecDepth 100000 in
set_option maxHeartbeats 4000000 in
theorem c_X3_count {X : Sc} {h : Hp} (hI : In (h 1)) {k : Int32} : Ct X yX3_count cX3_count 2 (some .int) 3 [.ref 0, .int k] h (some (.int (oV (f_count (h 1) (h 4 0) k)))) (oC h (f_count (h 1) (h 4 0) k)) := by
  refine ⟨rfl, ?_⟩
  refine g_iload_n dX3_count_0 rfl ?_
  refine g_tswc (0) (0) (47) 48 dX3_count_1 (by decide) (by decide) (by decide) rfl (by decide) (fun c1 => ?_) (fun c1_0 n1_0 => ?_)
  · refine g_aload_n dX3_count_48 rfl ?_
    refine g_getR dX3_count_49 fl_X3_12 rfl rfl ?_
    refine g_getI dX3_count_52 fl_X3_139 rfl rfl ?_
    exact g_ireturn dX3_count_55 (by simp_all [f_count, oV, fvl_0, fvl_1, fvl_2, fvl_3, fvl_4, fvl_5, fvl_6, bI_0]) (by simp_all [f_count, oC, bI_0, setg_id])
  refine g_tswc (1) (1) (55) 56 dX3_count_1 (by decide) (by decide) (by decide) rfl (by decide) (fun c1 => ?_) (fun c1_1 n1_1 => ?_)
  · refine g_aload_n dX3_count_56 rfl ?_
    refine g_getR dX3_count_57 fl_X3_12 rfl rfl ?_
    refine g_getI dX3_count_60 fl_X3_70 rfl rfl ?_
    exact g_ireturn dX3_count_63 (by simp_all [f_count, oV, fvl_0, fvl_1, fvl_2, fvl_3, fvl_4, fvl_5, fvl_6, bI_0]) (by simp_all [f_count, oC, bI_0, setg_id])
  refine g_tswc (2) (2) (63) 64 dX3_count_1 (by decide) (by decide) (by decide) rfl (by decide) (fun c1 => ?_) (fun c1_2 n1_2 => ?_)
  · refine g_aload_n dX3_count_64 rfl ?_
    refine g_getR dX3_count_65 fl_X3_12 rfl rfl ?_
    refine g_getI dX3_count_68 fl_X3_82 rfl rfl ?_
    exact g_ireturn dX3_count_71 (by simp_all [f_count, oV, fvl_0, fvl_1, fvl_2, fvl_3, fvl_4, fvl_5, fvl_6, bI_0]) (by simp_all [f_count, oC, bI_0, setg_id])
  refine g_tswc (3) (3) (71) 72 dX3_count_1 (by decide) (by decide) (by decide) rfl (by decide) (fun c1 => ?_) (fun c1_3 n1_3 => ?_)
  · refine g_aload_n dX3_count_72 rfl ?_
    refine g_getR dX3_count_73 fl_X3_12 rfl rfl ?_
    refine g_callV0i (c_X0_billSum inn1 hI) mi_X0_billSum mv_X0_billSum ml_X3_147 dX3_count_76 rfl rfl (by decide) (Nat.le_of_ble_eq_true rfl) (Nat.le_of_ble_eq_true rfl) ?_
    exact g_ireturn dX3_count_79 (by simp_all [f_count, oV, fvl_0, fvl_1, fvl_2, fvl_3, fvl_4, fvl_5, fvl_6, bI_0]) (by simp_all [f_count, oC, bI_0, setg_id])
  refine g_tswc (4) (4) (79) 80 dX3_count_1 (by decide) (by decide) (by decide) rfl (by decide) (fun c1 => ?_) (fun c1_4 n1_4 => ?_)
  · refine g_aload_n dX3_count_80 rfl ?_
    refine g_getR dX3_count_81 fl_X3_12 rfl rfl ?_
    refine g_callV0i (c_X0_servedSum inn1 hI) mi_X0_servedSum mv_X0_servedSum ml_X3_157 dX3_count_84 rfl rfl (by decide) (Nat.le_of_ble_eq_true rfl) (Nat.le_of_ble_eq_true rfl) ?_
    exact g_ireturn dX3_count_87 (by simp_all [f_count, oV, fvl_0, fvl_1, fvl_2, fvl_3, fvl_4, fvl_5, fvl_6, bI_0]) (by simp_all [f_count, oC, bI_0, setg_id])
  refine g_tswc (5) (5) (87) 88 dX3_count_1 (by decide) (by decide) (by decide) rfl (by decide) (fun c1 => ?_) (fun c1_5 n1_5 => ?_)
  · refine g_aload_n dX3_count_88 rfl ?_
    refine g_getR dX3_count_89 fl_X3_25 rfl rfl ?_
    refine g_getI dX3_count_92 fl_X3_213 rfl rfl ?_
    exact g_ireturn dX3_count_95 (by simp_all [f_count, oV, fvl_0, fvl_1, fvl_2, fvl_3, fvl_4, fvl_5, fvl_6, bI_0]) (by simp_all [f_count, oC, bI_0, setg_id])
  refine g_tswc (6) (6) (95) 96 dX3_count_1 (by decide) (by decide) (by decide) rfl (by decide) (fun c1 => ?_) (fun c1_6 n1_6 => ?_)
  · refine g_aload_n dX3_count_96 rfl ?_
    refine g_getR dX3_count_97 fl_X3_12 rfl rfl ?_
    refine g_getI dX3_count_100 fl_X3_210 rfl rfl ?_
    exact g_ireturn dX3_count_103 (by simp_all [f_count, oV, fvl_0, fvl_1, fvl_2, fvl_3, fvl_4, fvl_5, fvl_6, bI_0]) (by simp_all [f_count, oC, bI_0, setg_id])
  refine g_tswc (7) (7) (103) 104 dX3_count_1 (by decide) (by decide) (by decide) rfl (by decide) (fun c1 => ?_) (fun c1_7 n1_7 => ?_)
  · refine g_aload_n dX3_count_104 rfl ?_
    refine g_getR dX3_count_105 fl_X3_12 rfl rfl ?_
    refine g_callV0i (c_X0_spotsInUse inn1) mi_X0_spotsInUse mv_X0_spotsInUse ml_X3_270 dX3_count_108 rfl rfl (by decide) (Nat.le_of_ble_eq_true rfl) (Nat.le_of_ble_eq_true rfl) ?_
    exact g_ireturn dX3_count_111 (by simp_all [f_count, oV, fvl_0, fvl_1, fvl_2, fvl_3, fvl_4, fvl_5, fvl_6, bI_0]) (by simp_all [f_count, oC, bI_0, setg_id])
  refine g_tswd 112 dX3_count_1 (by omega) (by decide) ?_
  refine g_aload_n dX3_count_112 rfl ?_
  refine g_ldc dX3_count_113 lc_X3_52 ?_
  refine g_callV1i (c_X3_found 0 (by decide) (by decide)) mi_X3_found mv_X3_found ml_X3_53 dX3_count_115 rfl rfl (by decide) (Nat.le_of_ble_eq_true rfl) (Nat.le_of_ble_eq_true rfl) ?_
  exact g_ireturn dX3_count_118 (by simp_all [f_count, oV, fvl_0, fvl_1, fvl_2, fvl_3, fvl_4, fvl_5, fvl_6, bI_0]) (by simp_all [f_count, oC, bI_0, setg_id])

set_option maxRecDepth 100000 in
set_option maxHeartbeats 4000000 in
theorem l_X3_status {X : Sc} {h : Hp} {z : Int32} : ∀ k, k ≤ 7 → Go X RX3 cX3_status 4 2 9 [.ref 0, .int z, .int (fndS (h 5) k), .int (nI k)] [] h (some (.int (fndS (h 5) 7))) h := by
  refine loop_up (7) ?_ ?_
  · refine g_iload_n dX3_status_9 rfl ?_
    refine g_bipush dX3_status_10 bp_7 ?_
    refine g_icmp_ge 30 dX3_status_12 (by decide) (fun c12 => ?_) (fun c12 => ?_)
    · refine g_iload_n dX3_status_30 rfl ?_
      exact g_ireturn dX3_status_31 rfl rfl
    · exact (lp_yes ((rfl : (7 : Int32) = nI 7)) (by decide) c12).elim
  · intro k hk ih
    refine g_iload_n dX3_status_9 rfl ?_
    refine g_bipush dX3_status_10 bp_7 ?_
    refine g_icmp_ge 30 dX3_status_12 (by decide) (fun c12 => ?_) (fun c12 => ?_)
    · exact (lp_no ((rfl : (7 : Int32) = nI 7)) (by decide) hk c12).elim
    · refine g_iload_n dX3_status_15 rfl ?_
      refine g_aload_n dX3_status_16 rfl ?_
      refine g_getR dX3_status_17 fl_X3_36 rfl rfl ?_
      refine g_iload_n dX3_status_20 rfl ?_
      refine g_iald0 k dX3_status_21 rfl rfl hk ?_
      refine g_iadd dX3_status_22 ?_
      refine g_istore_n dX3_status_23 (by decide) rfl ?_
      refine g_iinc dX3_status_24 rfl (ii_n _) (by decide) rfl ?_
      refine g_goto 9 dX3_status_27 (by decide) ?_
      exact ih

set_option maxRecDepth 100000 in
set_option maxHeartbeats 4000000 in
theorem c_X3_status {X : Sc} {h : Hp} {k : Int32} : Ct X yX3_status cX3_status 4 (some .int) 2 [.ref 0, .int k] h (some (.int (oV (f_status (h 5) k)))) (oG 5 5 h (f_status (h 5) k)) := by
  refine ⟨rfl, ?_⟩
  refine g_iload_n dX3_status_0 rfl ?_
  refine g_iconst dX3_status_1 ic_m1 ?_
  refine g_icmp_ne 32 dX3_status_2 (by decide) (fun c2 => ?_) (fun c2 => ?_)
  · refine g_iload_n dX3_status_32 rfl ?_
    refine g_iconst dX3_status_33 ic_0 ?_
    refine g_bipush dX3_status_34 bp_6 ?_
    refine g_callS3i (c_X3_within) mi_X3_within ms_X3_within ml_X3_48 dX3_status_36 (by decide) (Nat.le_of_ble_eq_true rfl) (Nat.le_of_ble_eq_true rfl) ?_
    refine g_if_ne 49 dX3_status_39 (by decide) (fun c39 => ?_) (fun c39 => ?_)
    · obtain ⟨j, hj, tj, rfl⟩ := inB_of 6 (by decide) (nb0 c39)
      refine g_aload_n dX3_status_49 rfl ?_
      refine g_getR dX3_status_50 fl_X3_36 rfl rfl ?_
      refine g_iload_n dX3_status_53 rfl ?_
      refine g_iald0 j dX3_status_54 rfl rfl (by omega) ?_
      exact g_ireturn dX3_status_55 (by rw [f_status, if_neg c2, if_pos (nb0 c39), tj]; rfl) (by rw [f_status, if_neg c2, if_pos (nb0 c39)]; simp only [oG]; rw [setg_id])
    · refine g_aload_n dX3_status_42 rfl ?_
      refine g_ldc dX3_status_43 lc_X3_52 ?_
      refine g_callV1i (c_X3_found 0 (by decide) (by decide)) mi_X3_found mv_X3_found ml_X3_53 dX3_status_45 rfl rfl (by decide) (Nat.le_of_ble_eq_true rfl) (Nat.le_of_ble_eq_true rfl) ?_
      exact g_ireturn dX3_status_48 (by rw [f_status, if_neg c2, if_neg (by rw [b0 c39]; decide)]; rfl) (by rw [f_status, if_neg c2, if_neg (by rw [b0 c39]; decide)]; rfl)
  · refine g_iconst dX3_status_5 ic_0 ?_
    refine g_istore_n dX3_status_6 (by decide) rfl ?_
    refine g_iconst dX3_status_7 ic_0 ?_
    refine g_istore_n dX3_status_8 (by decide) rfl ?_
    rw [f_status, if_pos c2]
    simp only [oV, oG]
    rw [setg_id]
    exact l_X3_status 0 (by decide)

set_option maxRecDepth 100000 in
set_option maxHeartbeats 4000000 in
theorem c_X3_hold {X : Sc} {h : Hp} (hI : In (h 1)) {s d : Int32} : Ct X yX3_hold cX3_hold 3 (some .int) 2 [.ref 0, .int s, .int d] h (some (.int (oV (f_hold (h 1) s d)))) (oC h (f_hold (h 1) s d)) := by
  refine ⟨rfl, ?_⟩
  refine g_iload_n dX3_hold_0 rfl ?_
  refine g_callS1i (c_X3_isSpot) mi_X3_isSpot ms_X3_isSpot ml_X3_224 dX3_hold_1 (by decide) (Nat.le_of_ble_eq_true rfl) (Nat.le_of_ble_eq_true rfl) ?_
  refine g_if_eq 23 dX3_hold_4 (by decide) (fun c4 => ?_) (fun c4 => ?_)
  · refine g_aload_n dX3_hold_23 rfl ?_
    refine g_ldc dX3_hold_24 lc_X3_52 ?_
    refine g_callV1i (c_X3_found 0 (by decide) (by decide)) mi_X3_found mv_X3_found ml_X3_53 dX3_hold_26 rfl rfl (by decide) (Nat.le_of_ble_eq_true rfl) (Nat.le_of_ble_eq_true rfl) ?_
    exact g_ireturn dX3_hold_29 (by simp_all [f_hold, oV, fvl_0, fvl_1, fvl_2, fvl_3, fvl_4, fvl_5, fvl_6, bI_0]) (by first | (simp_all [f_hold, oC, bI_0]; done) | (rw [up_setg]; simp_all [f_hold, oC, bI_0]; done))
  · refine g_iload_n dX3_hold_7 rfl ?_
    refine g_iconst dX3_hold_8 ic_m1 ?_
    refine g_icmp_eq 30 dX3_hold_9 (by decide) (fun c9 => ?_) (fun c9 => ?_)
    · obtain ⟨j, hj, tj, rfl⟩ := inB_of 9 (by decide) (nb0 c4)
      refine g_aload_n dX3_hold_30 rfl ?_
      refine g_getR dX3_hold_31 fl_X3_12 rfl rfl ?_
      refine g_getR dX3_hold_34 fl_X3_227 rfl rfl ?_
      refine g_iload_n dX3_hold_37 rfl ?_
      refine g_iload_n dX3_hold_38 rfl ?_
      refine g_iast j dX3_hold_39 rfl rfl (by omega) ?_
      refine g_iconst dX3_hold_40 ic_1 ?_
      exact g_ireturn dX3_hold_41 (by simp_all [f_hold, oV, fvl_0, fvl_1, fvl_2, fvl_3, fvl_4, fvl_5, fvl_6, bI_0]) (by first | (simp_all [f_hold, oC, bI_0]; done) | (rw [up_setg]; simp_all [f_hold, oC, bI_0]; done))
    · refine g_aload_n dX3_hold_12 rfl ?_
      refine g_getR dX3_hold_13 fl_X3_12 rfl rfl ?_
      refine g_iload_n dX3_hold_16 rfl ?_
      refine g_callV1i (c_X0_isDish inn1) mi_X0_isDish mv_X0_isDish ml_X3_88 dX3_hold_17 rfl rfl (by decide) (Nat.le_of_ble_eq_true rfl) (Nat.le_of_ble_eq_true rfl) ?_
      refine g_if_ne 30 dX3_hold_20 (by decide) (fun c20 => ?_) (fun c20 => ?_)
      · obtain ⟨j, hj, tj, rfl⟩ := inB_of 9 (by decide) (nb0 c4)
        refine g_aload_n dX3_hold_30 rfl ?_
        refine g_getR dX3_hold_31 fl_X3_12 rfl rfl ?_
        refine g_getR dX3_hold_34 fl_X3_227 rfl rfl ?_
        refine g_iload_n dX3_hold_37 rfl ?_
        refine g_iload_n dX3_hold_38 rfl ?_
        refine g_iast j dX3_hold_39 rfl rfl (by omega) ?_
        refine g_iconst dX3_hold_40 ic_1 ?_
        exact g_ireturn dX3_hold_41 (by simp_all [f_hold, oV, fvl_0, fvl_1, fvl_2, fvl_3, fvl_4, fvl_5, fvl_6, bI_0]) (by first | (simp_all [f_hold, oC, bI_0]; done) | (rw [up_setg]; simp_all [f_hold, oC, bI_0]; done))
      · refine g_aload_n dX3_hold_23 rfl ?_
        refine g_ldc dX3_hold_24 lc_X3_52 ?_
        refine g_callV1i (c_X3_found 0 (by decide) (by decide)) mi_X3_found mv_X3_found ml_X3_53 dX3_hold_26 rfl rfl (by decide) (Nat.le_of_ble_eq_true rfl) (Nat.le_of_ble_eq_true rfl) ?_
        exact g_ireturn dX3_hold_29 (by simp_all [f_hold, oV, fvl_0, fvl_1, fvl_2, fvl_3, fvl_4, fvl_5, fvl_6, bI_0]) (by first | (simp_all [f_hold, oC, bI_0]; done) | (rw [up_setg]; simp_all [f_hold, oC, bI_0]; done))

set_option maxRecDepth 100000 in
set_option maxHeartbeats 4000000 in
theorem c_X3_as {X : Sc} {h : Hp} (hI : In (h 1)) {s k : Int32} : Ct X yX3_as cX3_as 4 (some .int) 2 [.ref 0, .int s, .int k] h (some (.int (oV (f_as (h 1) s k)))) (oC h (f_as (h 1) s k)) := by
  refine ⟨rfl, ?_⟩
  refine g_iload_n dX3_as_0 rfl ?_
  refine g_callS1i (c_X3_isSpot) mi_X3_isSpot ms_X3_isSpot ml_X3_224 dX3_as_1 (by decide) (Nat.le_of_ble_eq_true rfl) (Nat.le_of_ble_eq_true rfl) ?_
  refine g_if_eq 14 dX3_as_4 (by decide) (fun c4 => ?_) (fun c4 => ?_)
  · refine g_aload_n dX3_as_14 rfl ?_
    refine g_ldc dX3_as_15 lc_X3_52 ?_
    refine g_callV1i (c_X3_found 0 (by decide) (by decide)) mi_X3_found mv_X3_found ml_X3_53 dX3_as_17 rfl rfl (by decide) (Nat.le_of_ble_eq_true rfl) (Nat.le_of_ble_eq_true rfl) ?_
    exact g_ireturn dX3_as_20 (by simp_all [f_as, oV, fvl_0, fvl_1, fvl_2, fvl_3, fvl_4, fvl_5, fvl_6, bI_0]) (by simp_all [f_as, oC, bI_0, setg_id])
  · refine g_iload_n dX3_as_7 rfl ?_
    refine g_callS1i (c_X3_isKind) mi_X3_isKind ms_X3_isKind ml_X3_64 dX3_as_8 (by decide) (Nat.le_of_ble_eq_true rfl) (Nat.le_of_ble_eq_true rfl) ?_
    refine g_if_ne 21 dX3_as_11 (by decide) (fun c11 => ?_) (fun c11 => ?_)
    · obtain ⟨j, hj, tj, rfl⟩ := inB_of 9 (by decide) (nb0 c4)
      have hP : (inB (nI j) 0 9 && inB k 0 6) = true := by simp_all [bI_0]
      refine g_aload_n dX3_as_21 rfl ?_
      refine g_getR dX3_as_22 fl_X3_12 rfl rfl ?_
      refine g_getR dX3_as_25 fl_X3_227 rfl rfl ?_
      refine g_iload_n dX3_as_28 rfl ?_
      refine g_iald j dX3_as_29 rfl rfl (by omega) ?_
      refine g_istore_n dX3_as_30 (by decide) rfl ?_
      refine g_aload_n dX3_as_31 rfl ?_
      refine g_getR dX3_as_32 fl_X3_12 rfl rfl ?_
      refine g_iload_n dX3_as_35 rfl ?_
      refine g_callV1i (c_X0_isDish inn1) mi_X0_isDish mv_X0_isDish ml_X3_88 dX3_as_36 rfl rfl (by decide) (Nat.le_of_ble_eq_true rfl) (Nat.le_of_ble_eq_true rfl) ?_
      refine g_if_ne 49 dX3_as_39 (by decide) (fun c39 => ?_) (fun c39 => ?_)
      · have c39 := nb0 c39
        obtain ⟨e, le, he, te, ee⟩ := isD_of2 hI c39
        obtain ⟨x, hx, ex⟩ := hI.d (d := e) he (w := 0) (by decide)
        refine g_aload_n dX3_as_49 rfl ?_
        refine g_getR dX3_as_50 fl_X3_12 rfl rfl ?_
        refine g_iload_n dX3_as_53 rfl ?_
        refine g_st (st2 := [.int (nI e), .ref 1]) (by rw [ee]) ?_
        refine g_iconst dX3_as_54 ic_0 ?_
        refine g_callV2i (c_X0_dishFact (w := 0) inn1 he (by decide)) mi_X0_dishFact mv_X0_dishFact ml_X3_91 dX3_as_55 rfl rfl (by decide) (Nat.le_of_ble_eq_true rfl) (Nat.le_of_ble_eq_true rfl) ?_
        refine g_st (st2 := [.int (nI x)]) (by rw [ex]) ?_
        refine g_iload_n dX3_as_58 rfl ?_
        refine g_callS2i (c_X0_isUnder hx) mi_X0_isUnder ms_X0_isUnder ml_X3_231 dX3_as_59 (by decide) (Nat.le_of_ble_eq_true rfl) (Nat.le_of_ble_eq_true rfl) ?_
        refine g_if_ne 72 dX3_as_62 (by decide) (fun c62 => ?_) (fun c62 => ?_)
        · refine g_iload_n dX3_as_72 rfl ?_
          exact g_ireturn dX3_as_73 (by rw [f_as, if_pos hP, tj, if_pos c39, ee, te, ex, if_pos (nb0 c62)]; rfl) (by rw [f_as, if_pos hP, tj, if_pos c39, ee, te, ex, if_pos (nb0 c62)]; simp only [oC]; rw [setg_id])
        · refine g_aload_n dX3_as_65 rfl ?_
          refine g_ldc dX3_as_66 lc_X3_234 ?_
          refine g_callV1i (c_X3_found 2 (by decide) (by decide)) mi_X3_found mv_X3_found ml_X3_53 dX3_as_68 rfl rfl (by decide) (Nat.le_of_ble_eq_true rfl) (Nat.le_of_ble_eq_true rfl) ?_
          exact g_ireturn dX3_as_71 (by rw [f_as, if_pos hP, tj, if_pos c39, ee, te, ex, if_neg (by rw [b0 c62]; decide)]; rfl) (by rw [f_as, if_pos hP, tj, if_pos c39, ee, te, ex, if_neg (by rw [b0 c62]; decide)]; rfl)
      · refine g_aload_n dX3_as_42 rfl ?_
        refine g_ldc dX3_as_43 lc_X3_230 ?_
        refine g_callV1i (c_X3_found 5 (by decide) (by decide)) mi_X3_found mv_X3_found ml_X3_53 dX3_as_45 rfl rfl (by decide) (Nat.le_of_ble_eq_true rfl) (Nat.le_of_ble_eq_true rfl) ?_
        exact g_ireturn dX3_as_48 (by rw [f_as, if_pos hP, tj, if_neg (by rw [b0 c39]; decide)]; rfl) (by rw [f_as, if_pos hP, tj, if_neg (by rw [b0 c39]; decide)]; rfl)
    · refine g_aload_n dX3_as_14 rfl ?_
      refine g_ldc dX3_as_15 lc_X3_52 ?_
      refine g_callV1i (c_X3_found 0 (by decide) (by decide)) mi_X3_found mv_X3_found ml_X3_53 dX3_as_17 rfl rfl (by decide) (Nat.le_of_ble_eq_true rfl) (Nat.le_of_ble_eq_true rfl) ?_
      exact g_ireturn dX3_as_20 (by simp_all [f_as, oV, fvl_0, fvl_1, fvl_2, fvl_3, fvl_4, fvl_5, fvl_6, bI_0]) (by simp_all [f_as, oC, bI_0, setg_id])

theorem bv_nI (x : Int32) : x = nI x.toBitVec.toNat := by
  apply Int32.toBitVec_inj.1
  show x.toBitVec = BitVec.ofNat 32 x.toBitVec.toNat
  apply BitVec.eq_of_toNat_eq
  rw [BitVec.toNat_ofNat, Nat.mod_eq_of_lt x.toBitVec.isLt]
theorem drw_of (z : Int32) : ∃ q, q < 2 ^ 24 ∧ tn (drwV z) = q ∧ drwV z = nI q := by
  have e : (drwV z).toBitVec.toNat = (drwZ z).toBitVec.toNat / 2 ^ 8 := pk_ushr (drwZ z) 8 8 (by decide)
  have hl := (drwZ z).toBitVec.isLt
  have hq : (drwZ z).toBitVec.toNat / 2 ^ 8 < 2 ^ 24 := by omega
  have e2 : drwV z = nI ((drwZ z).toBitVec.toNat / 2 ^ 8) := by rw [bv_nI (drwV z), e]
  exact ⟨_, hq, by rw [e2]; exact nI_clamp (by omega), e2⟩
theorem In_z {m : Rw} (h : In m) (v : Int32) : In (upd m 1 v) := by
  refine ⟨fun k hk h1 => ?_, fun s hs => ?_⟩
  · rw [upd_n _ _ h1]; exact h.1 k hk h1
  · rw [upd_n _ _ (by omega), nD_upd (by decide)]; exact h.2 s hs
def coaR (m : Rw) : Rw := dayR (upd (upd m 1 (drwZ (drwZ (m 1)))) (4 + tn (m 0) % 6) (nI (10 * (tn (drwV (m 1)) % 6) + tn (drwV (drwZ (m 1))) % 8)))
def coaN (m : Rw) : Nat → Rw
  | 0 => m
  | n + 1 => coaR (coaN m n)
theorem In_coa0 {m : Rw} (h : In m) (v : Int32) {t a b : Nat} (ht : t < 6) (ha : a < 6) (hb : b < 8) : In (upd (upd m 1 v) (4 + t) (nI (10 * a + b))) := by
  refine (In_z h v).upd (by omega) (by omega) (by omega) ?_
  unfold okc
  rw [if_neg (by omega), if_neg (by omega), if_neg (by omega), if_pos (by omega)]
  omega
theorem In_coaR {m : Rw} (h : In m) : In (coaR m) := (In_coa0 h _ (Nat.mod_lt _ (by decide)) (Nat.mod_lt _ (by decide)) (Nat.mod_lt _ (by decide))).dayR
theorem In_coaN {m : Rw} (h : In m) : ∀ n, In (coaN m n)
  | 0 => h
  | n + 1 => In_coaR (In_coaN h n)
def f_coach (m : Rw) (n : Int32) : Oc := if inB n 1 20 then (if m 0 + n ≤ 99999 then .inr (bilS (coaN m (tn n)) (nG (coaN m (tn n))), coaN m (tn n)) else .inl 4) else .inl 0
theorem rem8 {t : Nat} (ht : t < 2 ^ 31) : nI t - nI t / 8 * 8 = nI (t % 8) := pk_rem (d := 8) ht (by decide) (by decide)
theorem coa_row {m : Rw} {t a b : Nat} (et : tn (m 0) = t) (ea : tn (drwV (m 1)) = a) (eb : tn (drwV (drwZ (m 1))) = b) : dayR (upd (upd (upd m 1 (drwZ (m 1))) 1 (drwZ (upd m 1 (drwZ (m 1)) 1))) (4 + t % 6) (10 * nI (a % 6) + nI (b % 8))) = coaR m := by
  unfold coaR
  rw [upd_2, upd_s, et, ea, eb, show (10 : Int32) = nI 10 from rfl, pk_mul, nI_add]
set_option maxRecDepth 100000 in
set_option maxHeartbeats 4000000 in
theorem l_X3_coach {X : Sc} {h : Hp} (hI : In (h 1)) {n : Nat} (hn : n ≤ 20) : ∀ k, k ≤ n → Go X RX3 cX3_coach 5 4 40 [.ref 0, .int (nI n), .int (nI k), .null, .null] [] (setg h 1 (coaN (h 1) k)) (some (.int (bilS (coaN (h 1) n) (nG (coaN (h 1) n))))) (setg h 1 (coaN (h 1) n)) := by
  refine loop_up (n) ?_ ?_
  · refine g_iload_n dX3_coach_40 rfl ?_
    refine g_iload_n dX3_coach_41 rfl ?_
    refine g_icmp_ge 101 dX3_coach_42 (by decide) (fun c42 => ?_) (fun c42 => ?_)
    · refine g_aload_n dX3_coach_101 rfl ?_
      refine g_getR dX3_coach_102 fl_X3_12 rfl rfl ?_
      refine g_callV0i (c_X0_billSum inn1 (by rw [setg_s]; exact In_coaN hI n)) mi_X0_billSum mv_X0_billSum ml_X3_147 dX3_coach_105 rfl rfl (by decide) (Nat.le_of_ble_eq_true rfl) (Nat.le_of_ble_eq_true rfl) ?_
      refine g_st (st2 := [.int (bilS (coaN (h 1) n) (nG (coaN (h 1) n)))]) (by rw [setg_s]) ?_
      exact g_ireturn dX3_coach_108 rfl rfl
    · exact (lp_yes ((rfl : nI n = nI n)) (by omega) c42).elim
  · intro k hk ih
    have hM := In_coaN hI k
    obtain ⟨t, ht, e0⟩ := hM.day
    obtain ⟨a, ha, ta, ea⟩ := drw_of (coaN (h 1) k 1)
    obtain ⟨b, hb, tb, eb⟩ := drw_of (drwZ (coaN (h 1) k 1))
    have et : tn (coaN (h 1) k 0) = t := by rw [e0]; exact nI_clamp (by omega)
    refine g_iload_n dX3_coach_40 rfl ?_
    refine g_iload_n dX3_coach_41 rfl ?_
    refine g_icmp_ge 101 dX3_coach_42 (by decide) (fun c42 => ?_) (fun c42 => ?_)
    · exact (lp_no ((rfl : nI n = nI n)) (by omega) hk c42).elim
    · refine g_aload_n dX3_coach_45 rfl ?_
      refine g_getR dX3_coach_46 fl_X3_12 rfl rfl ?_
      refine g_callV0i (c_X0_drawNumber inn1) mi_X0_drawNumber mv_X0_drawNumber ml_X3_200 dX3_coach_49 rfl rfl (by decide) (Nat.le_of_ble_eq_true rfl) (Nat.le_of_ble_eq_true rfl) ?_
      refine g_h (by rw [setg_s, setg_2]) ?_
      refine g_st (st2 := [.int (nI a)]) (by rw [setg_s, ea]) ?_
      refine g_bipush dX3_coach_52 bp_6 ?_
      refine g_irem dX3_coach_54 (by decide) ?_
      refine g_st (st2 := [.int (nI (a % 6))]) (by rw [rem6 (by omega)]) ?_
      refine g_istore_n dX3_coach_55 (by decide) rfl ?_
      refine g_aload_n dX3_coach_56 rfl ?_
      refine g_getR dX3_coach_57 fl_X3_12 rfl rfl ?_
      refine g_callV0i (c_X0_drawNumber inn1) mi_X0_drawNumber mv_X0_drawNumber ml_X3_200 dX3_coach_60 rfl rfl (by decide) (Nat.le_of_ble_eq_true rfl) (Nat.le_of_ble_eq_true rfl) ?_
      refine g_h (by rw [setg_s, setg_2]) ?_
      refine g_st (st2 := [.int (nI b)]) (by rw [setg_s, upd_s, eb]) ?_
      refine g_bipush dX3_coach_63 bp_8 ?_
      refine g_irem dX3_coach_65 (by decide) ?_
      refine g_st (st2 := [.int (nI (b % 8))]) (by rw [rem8 (by omega)]) ?_
      refine g_istore dX3_coach_66 (by decide) rfl ?_
      refine g_aload_n dX3_coach_68 rfl ?_
      refine g_getR dX3_coach_69 fl_X3_12 rfl rfl ?_
      refine g_aload_n dX3_coach_72 rfl ?_
      refine g_getR dX3_coach_73 fl_X3_12 rfl rfl ?_
      refine g_getI dX3_coach_76 fl_X3_139 rfl rfl ?_
      refine g_st (st2 := [.int (nI t), .ref 1]) (by rw [setg_s, upd_n _ _ (by decide), upd_n _ _ (by decide), e0]) ?_
      refine g_bipush dX3_coach_79 bp_6 ?_
      refine g_irem dX3_coach_81 (by decide) ?_
      refine g_st (st2 := [.int (nI (t % 6)), .ref 1]) (by rw [rem6 (by omega)]) ?_
      refine g_iload_n dX3_coach_82 rfl ?_
      refine g_iload dX3_coach_83 rfl ?_
      refine g_callV3v (c_X0_planMeal inn1 (Nat.mod_lt _ (by decide))) mi_X0_planMeal mv_X0_planMeal ml_X3_60 dX3_coach_85 rfl rfl (by decide) (Nat.le_of_ble_eq_true rfl) (Nat.le_of_ble_eq_true rfl) ?_
      refine g_h (by rw [setg_s, setg_2]) ?_
      refine g_aload_n dX3_coach_88 rfl ?_
      refine g_getR dX3_coach_89 fl_X3_12 rfl rfl ?_
      refine g_callV0v (c_X0_passDay inn1 (by rw [setg_s, upd_2, upd_s, show (10 : Int32) = nI 10 from rfl, pk_mul, nI_add]; exact In_coa0 hM _ (Nat.mod_lt _ (by decide)) (Nat.mod_lt _ (by decide)) (Nat.mod_lt _ (by decide)))) mi_X0_passDay mv_X0_passDay ml_X3_173 dX3_coach_92 rfl rfl (by decide) (Nat.le_of_ble_eq_true rfl) (Nat.le_of_ble_eq_true rfl) ?_
      refine g_iinc dX3_coach_95 rfl (ii_n _) (by decide) rfl ?_
      refine g_goto 40 dX3_coach_98 (by decide) ?_
      refine g_mask [true, true, true, false, false] ?_
      exact g_h (by rw [setg_s, setg_2, coa_row et ta tb]; rfl) ih

set_option maxRecDepth 100000 in
set_option maxHeartbeats 4000000 in
theorem c_X3_coach {X : Sc} {h : Hp} (hI : In (h 1)) {n : Int32} : Ct X yX3_coach cX3_coach 5 (some .int) 4 [.ref 0, .int n] h (some (.int (oV (f_coach (h 1) n)))) (oC h (f_coach (h 1) n)) := by
  refine ⟨rfl, ?_⟩
  refine g_iload_n dX3_coach_0 rfl ?_
  refine g_iconst dX3_coach_1 ic_1 ?_
  refine g_bipush dX3_coach_2 bp_20 ?_
  refine g_callS3i (c_X3_within) mi_X3_within ms_X3_within ml_X3_48 dX3_coach_4 (by decide) (Nat.le_of_ble_eq_true rfl) (Nat.le_of_ble_eq_true rfl) ?_
  refine g_if_ne 17 dX3_coach_7 (by decide) (fun c7 => ?_) (fun c7 => ?_)
  · obtain ⟨j, l1, hj, tj, rfl⟩ := inB_of1 20 (by decide) (nb0 c7)
    refine g_aload_n dX3_coach_17 rfl ?_
    refine g_getR dX3_coach_18 fl_X3_12 rfl rfl ?_
    refine g_getI dX3_coach_21 fl_X3_139 rfl rfl ?_
    refine g_iload_n dX3_coach_24 rfl ?_
    refine g_iadd dX3_coach_25 ?_
    refine g_ldc dX3_coach_26 lc_X3_142 ?_
    refine g_icmp_le 38 dX3_coach_28 (by decide) (fun c28 => ?_) (fun c28 => ?_)
    · refine g_iconst dX3_coach_38 ic_0 ?_
      refine g_istore_n dX3_coach_39 (by decide) rfl ?_
      rw [f_coach, if_pos (nb0 c7), if_pos c28, tj]
      simp only [oV, oC]
      exact g_h (setg_id h 1).symm (l_X3_coach hI hj 0 (Nat.zero_le _))
    · refine g_aload_n dX3_coach_31 rfl ?_
      refine g_ldc dX3_coach_32 lc_X3_134 ?_
      refine g_callV1i (c_X3_found 4 (by decide) (by decide)) mi_X3_found mv_X3_found ml_X3_53 dX3_coach_34 rfl rfl (by decide) (Nat.le_of_ble_eq_true rfl) (Nat.le_of_ble_eq_true rfl) ?_
      exact g_ireturn dX3_coach_37 (by rw [f_coach, if_pos (nb0 c7), if_neg c28]; rfl) (by rw [f_coach, if_pos (nb0 c7), if_neg c28]; rfl)
  · refine g_aload_n dX3_coach_10 rfl ?_
    refine g_ldc dX3_coach_11 lc_X3_52 ?_
    refine g_callV1i (c_X3_found 0 (by decide) (by decide)) mi_X3_found mv_X3_found ml_X3_53 dX3_coach_13 rfl rfl (by decide) (Nat.le_of_ble_eq_true rfl) (Nat.le_of_ble_eq_true rfl) ?_
    exact g_ireturn dX3_coach_16 (by simp_all [f_coach, oV, fvl_0, fvl_1, fvl_2, fvl_3, fvl_4, fvl_5, fvl_6, bI_0]) (by simp_all [f_coach, oC, bI_0, setg_id])

