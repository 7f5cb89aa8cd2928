/-! THE REFERENCE'S CALLS -/
theorem jx4 (j : Nat) : 4 + nI j = nI (4 + j) := by rw [show (4 : Int32) = nI 4 from rfl, nI_add]
theorem jx88 (j : Nat) : 88 + nI j = nI (88 + j) := by rw [show (88 : Int32) = nI 88 from rfl, nI_add]
set_option maxRecDepth 100000 in
set_option maxHeartbeats 4000000 in
theorem c_X4_list {X : Sc} {h : Hp} (hI : In (h 11)) {i gu di : Int32} : Ct X yX4_list cX4_list 4 (some .int) 2 [.ref 28, .int i, .int gu, .int di] h (some (.int (oV (f_list (h 11) i gu di)))) (oM h (f_list (h 11) i gu di)) := by
  refine ⟨rfl, ?_⟩
  refine g_iload_n dX4_list_0 rfl ?_
  refine g_callS1i (c_X4_isPlace) mi_X4_isPlace ms_X4_isPlace ml_X4_55 dX4_list_1 (by decide) (Nat.le_of_ble_eq_true rfl) (Nat.le_of_ble_eq_true rfl) ?_
  refine g_if_eq 42 dX4_list_4 (by decide) (fun c4 => ?_) (fun c4 => ?_)
  · refine g_aload_n dX4_list_42 rfl ?_
    refine g_ldc dX4_list_43 lc_X4_34 ?_
    refine g_callV1i (c_X4_finds 0 (by decide) (by decide)) mi_X4_finds mv_X4_finds ml_X4_36 dX4_list_45 rfl rfl (by decide) (Nat.le_of_ble_eq_true rfl) (Nat.le_of_ble_eq_true rfl) ?_
    exact g_ireturn dX4_list_48 (by simp_all [f_list, oV, fvl_0, fvl_1, fvl_2, fvl_3, fvl_4, fvl_5, fvl_6, bI_0]) (by simp_all [f_list, oM, bI_0, setg_id])
  · refine g_iload_n dX4_list_7 rfl ?_
    refine g_iconst dX4_list_8 ic_0 ?_
    refine g_iconst dX4_list_9 ic_5 ?_
    refine g_callS3i (c_X4_in) mi_X4_in ms_X4_in ml_X4_40 dX4_list_10 (by decide) (Nat.le_of_ble_eq_true rfl) (Nat.le_of_ble_eq_true rfl) ?_
    refine g_if_eq 42 dX4_list_13 (by decide) (fun c13 => ?_) (fun c13 => ?_)
    · refine g_aload_n dX4_list_42 rfl ?_
      refine g_ldc dX4_list_43 lc_X4_34 ?_
      refine g_callV1i (c_X4_finds 0 (by decide) (by decide)) mi_X4_finds mv_X4_finds ml_X4_36 dX4_list_45 rfl rfl (by decide) (Nat.le_of_ble_eq_true rfl) (Nat.le_of_ble_eq_true rfl) ?_
      exact g_ireturn dX4_list_48 (by simp_all [f_list, oV, fvl_0, fvl_1, fvl_2, fvl_3, fvl_4, fvl_5, fvl_6, bI_0]) (by simp_all [f_list, oM, bI_0, setg_id])
    · refine g_iload_n dX4_list_16 rfl ?_
      refine g_iconst dX4_list_17 ic_0 ?_
      refine g_bipush dX4_list_18 bp_7 ?_
      refine g_callS3i (c_X4_in) mi_X4_in ms_X4_in ml_X4_40 dX4_list_20 (by decide) (Nat.le_of_ble_eq_true rfl) (Nat.le_of_ble_eq_true rfl) ?_
      refine g_if_eq 42 dX4_list_23 (by decide) (fun c23 => ?_) (fun c23 => ?_)
      · refine g_aload_n dX4_list_42 rfl ?_
        refine g_ldc dX4_list_43 lc_X4_34 ?_
        refine g_callV1i (c_X4_finds 0 (by decide) (by decide)) mi_X4_finds mv_X4_finds ml_X4_36 dX4_list_45 rfl rfl (by decide) (Nat.le_of_ble_eq_true rfl) (Nat.le_of_ble_eq_true rfl) ?_
        exact g_ireturn dX4_list_48 (by simp_all [f_list, oV, fvl_0, fvl_1, fvl_2, fvl_3, fvl_4, fvl_5, fvl_6, bI_0]) (by simp_all [f_list, oM, bI_0, setg_id])
      · obtain ⟨j, hj, tj, rfl⟩ := inB_of 5 (by decide) (nb0 c4)
        refine g_aload_n dX4_list_26 rfl ?_
        refine g_iconst dX4_list_27 ic_4 ?_
        refine g_iload_n dX4_list_28 rfl ?_
        refine g_iadd dX4_list_29 ?_
        refine g_st (st2 := [.int (nI (4 + j)), .ref 28]) (by rw [jx4]) ?_
        refine g_bipush dX4_list_30 bp_10 ?_
        refine g_iload_n dX4_list_32 rfl ?_
        refine g_imul dX4_list_33 ?_
        refine g_iload_n dX4_list_34 rfl ?_
        refine g_iadd dX4_list_35 ?_
        refine g_callV2i (c_X4_becomes (by omega)) mi_X4_becomes mv_X4_becomes ml_X4_59 dX4_list_36 rfl rfl (by decide) (Nat.le_of_ble_eq_true rfl) (Nat.le_of_ble_eq_true rfl) ?_
        refine g_goto 48 dX4_list_39 (by decide) ?_
        exact g_ireturn dX4_list_48 (by simp_all [f_list, oV, fvl_0, fvl_1, fvl_2, fvl_3, fvl_4, fvl_5, fvl_6, bI_0]) (by simp_all [f_list, oM, bI_0, setg_id])

set_option maxRecDepth 100000 in
set_option maxHeartbeats 4000000 in
theorem c_X4_listed {X : Sc} {h : Hp} (hI : In (h 11)) {i : Int32} : Ct X yX4_listed cX4_listed 2 (some .int) 2 [.ref 28, .int i] h (some (.int (oV (f_listed (h 11) i)))) (oM h (f_listed (h 11) i)) := by
  refine ⟨rfl, ?_⟩
  refine g_iload_n dX4_listed_0 rfl ?_
  refine g_callS1i (c_X4_isPlace) mi_X4_isPlace ms_X4_isPlace ml_X4_55 dX4_listed_1 (by decide) (Nat.le_of_ble_eq_true rfl) (Nat.le_of_ble_eq_true rfl) ?_
  refine g_if_eq 18 dX4_listed_4 (by decide) (fun c4 => ?_) (fun c4 => ?_)
  · refine g_aload_n dX4_listed_18 rfl ?_
    refine g_ldc dX4_listed_19 lc_X4_34 ?_
    refine g_callV1i (c_X4_finds 0 (by decide) (by decide)) mi_X4_finds mv_X4_finds ml_X4_36 dX4_listed_21 rfl rfl (by decide) (Nat.le_of_ble_eq_true rfl) (Nat.le_of_ble_eq_true rfl) ?_
    exact g_ireturn dX4_listed_24 (by simp_all [f_listed, oV, fvl_0, fvl_1, fvl_2, fvl_3, fvl_4, fvl_5, fvl_6, bI_0]) (by simp_all [f_listed, oM, bI_0, setg_id])
  · obtain ⟨j, hj, tj, rfl⟩ := inB_of 5 (by decide) (nb0 c4)
    refine g_aload_n dX4_listed_7 rfl ?_
    refine g_getR dX4_listed_8 fl_X4_9 rfl rfl ?_
    refine g_iconst dX4_listed_11 ic_4 ?_
    refine g_iload_n dX4_listed_12 rfl ?_
    refine g_iadd dX4_listed_13 ?_
    refine g_iald0 (4 + j) dX4_listed_14 rfl (jx4 j) (by omega) ?_
    refine g_goto 24 dX4_listed_15 (by decide) ?_
    exact g_ireturn dX4_listed_24 (by simp_all [f_listed, oV, fvl_0, fvl_1, fvl_2, fvl_3, fvl_4, fvl_5, fvl_6, bI_0]) (by simp_all [f_listed, oM, bI_0, setg_id])

set_option maxRecDepth 100000 in
set_option maxHeartbeats 4000000 in
theorem c_X4_dish {X : Sc} {h : Hp} (hI : In (h 11)) {k a b : Int32} : Ct X yX4_dish cX4_dish 4 (some .int) 2 [.ref 28, .int k, .int a, .int b] h (some (.int (oV (f_dish (h 11) k a b)))) (oM h (f_dish (h 11) k a b)) := by
  refine ⟨rfl, ?_⟩
  refine g_iload_n dX4_dish_0 rfl ?_
  refine g_iconst dX4_dish_1 ic_0 ?_
  refine g_bipush dX4_dish_2 bp_6 ?_
  refine g_callS3i (c_X4_in) mi_X4_in ms_X4_in ml_X4_40 dX4_dish_4 (by decide) (Nat.le_of_ble_eq_true rfl) (Nat.le_of_ble_eq_true rfl) ?_
  refine g_if_eq 24 dX4_dish_7 (by decide) (fun c7 => ?_) (fun c7 => ?_)
  · refine g_aload_n dX4_dish_24 rfl ?_
    refine g_ldc dX4_dish_25 lc_X4_34 ?_
    refine g_callV1i (c_X4_finds 0 (by decide) (by decide)) mi_X4_finds mv_X4_finds ml_X4_36 dX4_dish_27 rfl rfl (by decide) (Nat.le_of_ble_eq_true rfl) (Nat.le_of_ble_eq_true rfl) ?_
    exact g_ireturn dX4_dish_30 (by simp_all [f_dish, oV, fvl_0, fvl_1, fvl_2, fvl_3, fvl_4, fvl_5, fvl_6, bI_0]) (by simp_all [f_dish, oM, bI_0, setg_id])
  · refine g_iload_n dX4_dish_10 rfl ?_
    refine g_callS1i (c_X4_isTown) mi_X4_isTown ms_X4_isTown ml_X4_66 dX4_dish_11 (by decide) (Nat.le_of_ble_eq_true rfl) (Nat.le_of_ble_eq_true rfl) ?_
    refine g_if_eq 24 dX4_dish_14 (by decide) (fun c14 => ?_) (fun c14 => ?_)
    · refine g_aload_n dX4_dish_24 rfl ?_
      refine g_ldc dX4_dish_25 lc_X4_34 ?_
      refine g_callV1i (c_X4_finds 0 (by decide) (by decide)) mi_X4_finds mv_X4_finds ml_X4_36 dX4_dish_27 rfl rfl (by decide) (Nat.le_of_ble_eq_true rfl) (Nat.le_of_ble_eq_true rfl) ?_
      exact g_ireturn dX4_dish_30 (by simp_all [f_dish, oV, fvl_0, fvl_1, fvl_2, fvl_3, fvl_4, fvl_5, fvl_6, bI_0]) (by simp_all [f_dish, oM, bI_0, setg_id])
    · refine g_iload_n dX4_dish_17 rfl ?_
      refine g_callS1i (c_X4_isTown) mi_X4_isTown ms_X4_isTown ml_X4_66 dX4_dish_18 (by decide) (Nat.le_of_ble_eq_true rfl) (Nat.le_of_ble_eq_true rfl) ?_
      refine g_if_ne 31 dX4_dish_21 (by decide) (fun c21 => ?_) (fun c21 => ?_)
      · refine g_aload_n dX4_dish_31 rfl ?_
        refine g_getR dX4_dish_32 fl_X4_9 rfl rfl ?_
        refine g_iconst dX4_dish_35 ic_2 ?_
        refine g_iald0 2 dX4_dish_36 rfl rfl (by decide) ?_
        refine g_bipush dX4_dish_37 bp_8 ?_
        refine g_icmp_ne 51 dX4_dish_39 (by decide) (fun c39 => ?_) (fun c39 => ?_)
        · have h8 : ¬ nD (h 11) = 8 := fun q => c39 (by rw [hI.nD.2, q]; rfl)
          have n8 := hI.nD.1
          refine g_aload_n dX4_dish_51 rfl ?_
          refine g_iload_n dX4_dish_52 rfl ?_
          refine g_iload_n dX4_dish_53 rfl ?_
          refine g_iload_n dX4_dish_54 rfl ?_
          refine g_callV3i (c_X4_comes hI.nD.2 (by omega)) mi_X4_comes mv_X4_comes ml_X4_70 dX4_dish_55 rfl rfl (by decide) (Nat.le_of_ble_eq_true rfl) (Nat.le_of_ble_eq_true rfl) ?_
          exact g_ireturn dX4_dish_58 (by simp_all [f_dish, oV, fvl_0, fvl_1, fvl_2, fvl_3, fvl_4, fvl_5, fvl_6, bI_0]) (by simp_all [f_dish, oM, bI_0, setg_id])
        · have h8 : nD (h 11) = 8 := by
            have n8 := hI.nD.1
            exact (nI_eq (a := nD (h 11)) (b := 8) (by omega) (by decide)).mp (hI.nD.2 ▸ c39)
          refine g_aload_n dX4_dish_42 rfl ?_
          refine g_ldc dX4_dish_43 lc_X4_69 ?_
          refine g_callV1i (c_X4_finds 1 (by decide) (by decide)) mi_X4_finds mv_X4_finds ml_X4_36 dX4_dish_45 rfl rfl (by decide) (Nat.le_of_ble_eq_true rfl) (Nat.le_of_ble_eq_true rfl) ?_
          refine g_goto 58 dX4_dish_48 (by decide) ?_
          exact g_ireturn dX4_dish_58 (by simp_all [f_dish, oV, fvl_0, fvl_1, fvl_2, fvl_3, fvl_4, fvl_5, fvl_6, bI_0]) (by simp_all [f_dish, oM, bI_0, setg_id])
      · refine g_aload_n dX4_dish_24 rfl ?_
        refine g_ldc dX4_dish_25 lc_X4_34 ?_
        refine g_callV1i (c_X4_finds 0 (by decide) (by decide)) mi_X4_finds mv_X4_finds ml_X4_36 dX4_dish_27 rfl rfl (by decide) (Nat.le_of_ble_eq_true rfl) (Nat.le_of_ble_eq_true rfl) ?_
        exact g_ireturn dX4_dish_30 (by simp_all [f_dish, oV, fvl_0, fvl_1, fvl_2, fvl_3, fvl_4, fvl_5, fvl_6, bI_0]) (by simp_all [f_dish, oM, bI_0, setg_id])

set_option maxRecDepth 100000 in
set_option maxHeartbeats 4000000 in
theorem c_X4_guest {X : Sc} {h : Hp} (hI : In (h 11)) {b : Int32} : Ct X yX4_guest cX4_guest 2 (some .int) 2 [.ref 28, .int b] h (some (.int (oV (f_guest (h 11) b)))) (oM h (f_guest (h 11) b)) := by
  refine ⟨rfl, ?_⟩
  refine g_iload_n dX4_guest_0 rfl ?_
  refine g_iconst dX4_guest_1 ic_0 ?_
  refine g_bipush dX4_guest_2 bp_99 ?_
  refine g_callS3i (c_X4_in) mi_X4_in ms_X4_in ml_X4_40 dX4_guest_4 (by decide) (Nat.le_of_ble_eq_true rfl) (Nat.le_of_ble_eq_true rfl) ?_
  refine g_if_ne 17 dX4_guest_7 (by decide) (fun c7 => ?_) (fun c7 => ?_)
  · refine g_aload_n dX4_guest_17 rfl ?_
    refine g_getR dX4_guest_18 fl_X4_9 rfl rfl ?_
    refine g_iconst dX4_guest_21 ic_3 ?_
    refine g_iald0 3 dX4_guest_22 rfl rfl (by decide) ?_
    refine g_bipush dX4_guest_23 bp_6 ?_
    refine g_icmp_ne 37 dX4_guest_25 (by decide) (fun c25 => ?_) (fun c25 => ?_)
    · have h8 : ¬ nG (h 11) = 6 := fun q => c25 (by rw [hI.nG.2, q]; rfl)
      have n8 := hI.nG.1
      refine g_aload_n dX4_guest_37 rfl ?_
      refine g_iload_n dX4_guest_38 rfl ?_
      refine g_iconst dX4_guest_39 ic_0 ?_
      refine g_callV2i (c_X4_enters hI.nG.2 (by omega)) mi_X4_enters mv_X4_enters ml_X4_77 dX4_guest_40 rfl rfl (by decide) (Nat.le_of_ble_eq_true rfl) (Nat.le_of_ble_eq_true rfl) ?_
      exact g_ireturn dX4_guest_43 (by simp_all [f_guest, oV, fvl_0, fvl_1, fvl_2, fvl_3, fvl_4, fvl_5, fvl_6, bI_0]) (by simp_all [f_guest, oM, bI_0, newG2_0])
    · have h8 : nG (h 11) = 6 := by
        have n8 := hI.nG.1
        exact (nI_eq (a := nG (h 11)) (b := 6) (by omega) (by decide)).mp (hI.nG.2 ▸ c25)
      refine g_aload_n dX4_guest_28 rfl ?_
      refine g_ldc dX4_guest_29 lc_X4_69 ?_
      refine g_callV1i (c_X4_finds 1 (by decide) (by decide)) mi_X4_finds mv_X4_finds ml_X4_36 dX4_guest_31 rfl rfl (by decide) (Nat.le_of_ble_eq_true rfl) (Nat.le_of_ble_eq_true rfl) ?_
      refine g_goto 43 dX4_guest_34 (by decide) ?_
      exact g_ireturn dX4_guest_43 (by simp_all [f_guest, oV, fvl_0, fvl_1, fvl_2, fvl_3, fvl_4, fvl_5, fvl_6, bI_0]) (by simp_all [f_guest, oM, bI_0, newG2_0])
  · refine g_aload_n dX4_guest_10 rfl ?_
    refine g_ldc dX4_guest_11 lc_X4_34 ?_
    refine g_callV1i (c_X4_finds 0 (by decide) (by decide)) mi_X4_finds mv_X4_finds ml_X4_36 dX4_guest_13 rfl rfl (by decide) (Nat.le_of_ble_eq_true rfl) (Nat.le_of_ble_eq_true rfl) ?_
    exact g_ireturn dX4_guest_16 (by simp_all [f_guest, oV, fvl_0, fvl_1, fvl_2, fvl_3, fvl_4, fvl_5, fvl_6, bI_0]) (by simp_all [f_guest, oM, bI_0, newG2_0])

set_option maxRecDepth 100000 in
set_option maxHeartbeats 4000000 in
theorem c_X4_of {X : Sc} {h : Hp} (hI : In (h 11)) {d k : Int32} : Ct X yX4_of cX4_of 3 (some .int) 2 [.ref 28, .int d, .int k] h (some (.int (oV (f_of (h 11) d k)))) (oM h (f_of (h 11) d k)) := by
  refine ⟨rfl, ?_⟩
  refine g_aload_n dX4_of_0 rfl ?_
  refine g_iload_n dX4_of_1 rfl ?_
  refine g_callV1i (c_X4_isDish hI) mi_X4_isDish mv_X4_isDish ml_X4_80 dX4_of_2 rfl rfl (by decide) (Nat.le_of_ble_eq_true rfl) (Nat.le_of_ble_eq_true rfl) ?_
  refine g_if_eq 26 dX4_of_5 (by decide) (fun c5 => ?_) (fun c5 => ?_)
  · refine g_aload_n dX4_of_26 rfl ?_
    refine g_ldc dX4_of_27 lc_X4_34 ?_
    refine g_callV1i (c_X4_finds 0 (by decide) (by decide)) mi_X4_finds mv_X4_finds ml_X4_36 dX4_of_29 rfl rfl (by decide) (Nat.le_of_ble_eq_true rfl) (Nat.le_of_ble_eq_true rfl) ?_
    exact g_ireturn dX4_of_32 (by simp_all [f_of, oV, fvl_0, fvl_1, fvl_2, fvl_3, fvl_4, fvl_5, fvl_6, bI_0]) (by simp_all [f_of, oM, bI_0, setg_id])
  · refine g_iload_n dX4_of_8 rfl ?_
    refine g_iconst dX4_of_9 ic_0 ?_
    refine g_iconst dX4_of_10 ic_5 ?_
    refine g_callS3i (c_X4_in) mi_X4_in ms_X4_in ml_X4_40 dX4_of_11 (by decide) (Nat.le_of_ble_eq_true rfl) (Nat.le_of_ble_eq_true rfl) ?_
    refine g_if_eq 26 dX4_of_14 (by decide) (fun c14 => ?_) (fun c14 => ?_)
    · refine g_aload_n dX4_of_26 rfl ?_
      refine g_ldc dX4_of_27 lc_X4_34 ?_
      refine g_callV1i (c_X4_finds 0 (by decide) (by decide)) mi_X4_finds mv_X4_finds ml_X4_36 dX4_of_29 rfl rfl (by decide) (Nat.le_of_ble_eq_true rfl) (Nat.le_of_ble_eq_true rfl) ?_
      exact g_ireturn dX4_of_32 (by simp_all [f_of, oV, fvl_0, fvl_1, fvl_2, fvl_3, fvl_4, fvl_5, fvl_6, bI_0]) (by simp_all [f_of, oM, bI_0, setg_id])
    · obtain ⟨j, lj, hj, tj, rfl⟩ := isD_of2 hI (nb0 c5)
      obtain ⟨i, hi, ti, rfl⟩ := inB_of 5 (by decide) (nb0 c14)
      refine g_aload_n dX4_of_17 rfl ?_
      refine g_iload_n dX4_of_18 rfl ?_
      refine g_iload_n dX4_of_19 rfl ?_
      refine g_callV2i (c_X4_it hj (by omega)) mi_X4_it mv_X4_it ml_X4_48 dX4_of_20 rfl rfl (by decide) (Nat.le_of_ble_eq_true rfl) (Nat.le_of_ble_eq_true rfl) ?_
      refine g_goto 32 dX4_of_23 (by decide) ?_
      exact g_ireturn dX4_of_32 (by simp_all [f_of, oV, fvl_0, fvl_1, fvl_2, fvl_3, fvl_4, fvl_5, fvl_6, bI_0]) (by simp_all [f_of, oM, bI_0, setg_id])

set_option maxRecDepth 100000 in
set_option maxHeartbeats 4000000 in
theorem c_X4_mostOf {X : Sc} {h : Hp} {k : Nat} (hk : k ≤ 5) : Ct X yX4_mostOf cX4_mostOf 1 (some .int) 0 [.int (nI k)] h (some (.int (dshTops.getD k 0))) h := by
  refine ⟨rfl, ?_⟩
  refine g_iload_n dX4_mostOf_0 rfl ?_
  refine g_tswc (0) (0) (39) 40 dX4_mostOf_1 (by decide) (by decide) (by decide) rfl (by decide) (fun c1 => ?_) (fun c1_0 n1_0 => ?_)
  · refine g_bipush dX4_mostOf_40 bp_6 ?_
    exact g_ireturn dX4_mostOf_42 (by first | (rw [show k = 0 from (nI_eq (b := 0) (by omega) (by decide)).mp c1]; rfl) | (rw [show k = 1 from (nI_eq (b := 1) (by omega) (by decide)).mp c1]; rfl) | (rw [show k = 2 from (nI_eq (b := 2) (by omega) (by decide)).mp c1]; rfl) | (rw [show k = 3 from (nI_eq (b := 3) (by omega) (by decide)).mp c1]; rfl) | (rw [show k = 4 from (nI_eq (b := 4) (by omega) (by decide)).mp c1]; rfl) | (rw [show k = 5 from (nI_eq (b := 5) (by omega) (by decide)).mp c1]; rfl)) rfl
  refine g_tswc (1) (1) (51) 52 dX4_mostOf_1 (by decide) (by decide) (by decide) rfl (by decide) (fun c1 => ?_) (fun c1_1 n1_1 => ?_)
  · refine g_bipush dX4_mostOf_52 bp_11 ?_
    exact g_ireturn dX4_mostOf_54 (by first | (rw [show k = 0 from (nI_eq (b := 0) (by omega) (by decide)).mp c1]; rfl) | (rw [show k = 1 from (nI_eq (b := 1) (by omega) (by decide)).mp c1]; rfl) | (rw [show k = 2 from (nI_eq (b := 2) (by omega) (by decide)).mp c1]; rfl) | (rw [show k = 3 from (nI_eq (b := 3) (by omega) (by decide)).mp c1]; rfl) | (rw [show k = 4 from (nI_eq (b := 4) (by omega) (by decide)).mp c1]; rfl) | (rw [show k = 5 from (nI_eq (b := 5) (by omega) (by decide)).mp c1]; rfl)) rfl
  refine g_tswc (2) (2) (51) 52 dX4_mostOf_1 (by decide) (by decide) (by decide) rfl (by decide) (fun c1 => ?_) (fun c1_2 n1_2 => ?_)
  · refine g_bipush dX4_mostOf_52 bp_11 ?_
    exact g_ireturn dX4_mostOf_54 (by first | (rw [show k = 0 from (nI_eq (b := 0) (by omega) (by decide)).mp c1]; rfl) | (rw [show k = 1 from (nI_eq (b := 1) (by omega) (by decide)).mp c1]; rfl) | (rw [show k = 2 from (nI_eq (b := 2) (by omega) (by decide)).mp c1]; rfl) | (rw [show k = 3 from (nI_eq (b := 3) (by omega) (by decide)).mp c1]; rfl) | (rw [show k = 4 from (nI_eq (b := 4) (by omega) (by decide)).mp c1]; rfl) | (rw [show k = 5 from (nI_eq (b := 5) (by omega) (by decide)).mp c1]; rfl)) rfl
  refine g_tswc (3) (3) (42) 43 dX4_mostOf_1 (by decide) (by decide) (by decide) rfl (by decide) (fun c1 => ?_) (fun c1_3 n1_3 => ?_)
  · refine g_bipush dX4_mostOf_43 bp_99 ?_
    exact g_ireturn dX4_mostOf_45 (by first | (rw [show k = 0 from (nI_eq (b := 0) (by omega) (by decide)).mp c1]; rfl) | (rw [show k = 1 from (nI_eq (b := 1) (by omega) (by decide)).mp c1]; rfl) | (rw [show k = 2 from (nI_eq (b := 2) (by omega) (by decide)).mp c1]; rfl) | (rw [show k = 3 from (nI_eq (b := 3) (by omega) (by decide)).mp c1]; rfl) | (rw [show k = 4 from (nI_eq (b := 4) (by omega) (by decide)).mp c1]; rfl) | (rw [show k = 5 from (nI_eq (b := 5) (by omega) (by decide)).mp c1]; rfl)) rfl
  refine g_tswc (4) (4) (45) 46 dX4_mostOf_1 (by decide) (by decide) (by decide) rfl (by decide) (fun c1 => ?_) (fun c1_4 n1_4 => ?_)
  · refine g_sipush dX4_mostOf_46 sp_9999 ?_
    exact g_ireturn dX4_mostOf_49 (by first | (rw [show k = 0 from (nI_eq (b := 0) (by omega) (by decide)).mp c1]; rfl) | (rw [show k = 1 from (nI_eq (b := 1) (by omega) (by decide)).mp c1]; rfl) | (rw [show k = 2 from (nI_eq (b := 2) (by omega) (by decide)).mp c1]; rfl) | (rw [show k = 3 from (nI_eq (b := 3) (by omega) (by decide)).mp c1]; rfl) | (rw [show k = 4 from (nI_eq (b := 4) (by omega) (by decide)).mp c1]; rfl) | (rw [show k = 5 from (nI_eq (b := 5) (by omega) (by decide)).mp c1]; rfl)) rfl
  refine g_tswc (5) (5) (49) 50 dX4_mostOf_1 (by decide) (by decide) (by decide) rfl (by decide) (fun c1 => ?_) (fun c1_5 n1_5 => ?_)
  · refine g_iconst dX4_mostOf_50 ic_1 ?_
    exact g_ireturn dX4_mostOf_51 (by first | (rw [show k = 0 from (nI_eq (b := 0) (by omega) (by decide)).mp c1]; rfl) | (rw [show k = 1 from (nI_eq (b := 1) (by omega) (by decide)).mp c1]; rfl) | (rw [show k = 2 from (nI_eq (b := 2) (by omega) (by decide)).mp c1]; rfl) | (rw [show k = 3 from (nI_eq (b := 3) (by omega) (by decide)).mp c1]; rfl) | (rw [show k = 4 from (nI_eq (b := 4) (by omega) (by decide)).mp c1]; rfl) | (rw [show k = 5 from (nI_eq (b := 5) (by omega) (by decide)).mp c1]; rfl)) rfl
  exact absurd (nI_toInt (n := k) (by omega)) (by omega)

set_option maxRecDepth 100000 in
set_option maxHeartbeats 4000000 in
theorem c_X4_mostOfGuest {X : Sc} {h : Hp} {k : Nat} (hk : k ≤ 4) : Ct X yX4_mostOfGuest cX4_mostOfGuest 1 (some .int) 0 [.int (nI k)] h (some (.int (gstTops.getD k 0))) h := by
  refine ⟨rfl, ?_⟩
  refine g_iload_n dX4_mostOfGuest_0 rfl ?_
  refine g_tswc (0) (0) (31) 32 dX4_mostOfGuest_1 (by decide) (by decide) (by decide) rfl (by decide) (fun c1 => ?_) (fun c1_0 n1_0 => ?_)
  · refine g_bipush dX4_mostOfGuest_32 bp_99 ?_
    exact g_ireturn dX4_mostOfGuest_34 (by first | (rw [show k = 0 from (nI_eq (b := 0) (by omega) (by decide)).mp c1]; rfl) | (rw [show k = 1 from (nI_eq (b := 1) (by omega) (by decide)).mp c1]; rfl) | (rw [show k = 2 from (nI_eq (b := 2) (by omega) (by decide)).mp c1]; rfl) | (rw [show k = 3 from (nI_eq (b := 3) (by omega) (by decide)).mp c1]; rfl)) rfl
  refine g_tswc (1) (1) (34) 35 dX4_mostOfGuest_1 (by decide) (by decide) (by decide) rfl (by decide) (fun c1 => ?_) (fun c1_1 n1_1 => ?_)
  · refine g_bipush dX4_mostOfGuest_35 bp_11 ?_
    exact g_ireturn dX4_mostOfGuest_37 (by first | (rw [show k = 0 from (nI_eq (b := 0) (by omega) (by decide)).mp c1]; rfl) | (rw [show k = 1 from (nI_eq (b := 1) (by omega) (by decide)).mp c1]; rfl) | (rw [show k = 2 from (nI_eq (b := 2) (by omega) (by decide)).mp c1]; rfl) | (rw [show k = 3 from (nI_eq (b := 3) (by omega) (by decide)).mp c1]; rfl)) rfl
  refine g_tswc (2) (2) (37) 38 dX4_mostOfGuest_1 (by decide) (by decide) (by decide) rfl (by decide) (fun c1 => ?_) (fun c1_2 n1_2 => ?_)
  · refine g_ldc dX4_mostOfGuest_38 lc_X4_89 ?_
    exact g_ireturn dX4_mostOfGuest_40 (by first | (rw [show k = 0 from (nI_eq (b := 0) (by omega) (by decide)).mp c1]; rfl) | (rw [show k = 1 from (nI_eq (b := 1) (by omega) (by decide)).mp c1]; rfl) | (rw [show k = 2 from (nI_eq (b := 2) (by omega) (by decide)).mp c1]; rfl) | (rw [show k = 3 from (nI_eq (b := 3) (by omega) (by decide)).mp c1]; rfl)) rfl
  refine g_tswc (3) (3) (40) 41 dX4_mostOfGuest_1 (by decide) (by decide) (by decide) rfl (by decide) (fun c1 => ?_) (fun c1_3 n1_3 => ?_)
  · refine g_sipush dX4_mostOfGuest_41 sp_4095 ?_
    exact g_ireturn dX4_mostOfGuest_44 (by first | (rw [show k = 0 from (nI_eq (b := 0) (by omega) (by decide)).mp c1]; rfl) | (rw [show k = 1 from (nI_eq (b := 1) (by omega) (by decide)).mp c1]; rfl) | (rw [show k = 2 from (nI_eq (b := 2) (by omega) (by decide)).mp c1]; rfl) | (rw [show k = 3 from (nI_eq (b := 3) (by omega) (by decide)).mp c1]; rfl)) rfl
  refine g_tswd 45 dX4_mostOfGuest_1 (by omega) (by decide) ?_
  refine g_sipush dX4_mostOfGuest_45 sp_9999 ?_
  exact g_ireturn dX4_mostOfGuest_48 (by rw [show k = 4 by have := nI_toInt (n := k) (by omega); omega]; rfl) rfl

set_option maxRecDepth 100000 in
set_option maxHeartbeats 4000000 in
theorem c_X4_change {X : Sc} {h : Hp} (hI : In (h 11)) {d k v : Int32} : Ct X yX4_change cX4_change 4 (some .int) 2 [.ref 28, .int d, .int k, .int v] h (some (.int (oV (f_change (h 11) d k v)))) (oM h (f_change (h 11) d k v)) := by
  refine ⟨rfl, ?_⟩
  refine g_aload_n dX4_change_0 rfl ?_
  refine g_iload_n dX4_change_1 rfl ?_
  refine g_callV1i (c_X4_isDish hI) mi_X4_isDish mv_X4_isDish ml_X4_80 dX4_change_2 rfl rfl (by decide) (Nat.le_of_ble_eq_true rfl) (Nat.le_of_ble_eq_true rfl) ?_
  refine g_if_eq 46 dX4_change_5 (by decide) (fun c5 => ?_) (fun c5 => ?_)
  · refine g_aload_n dX4_change_46 rfl ?_
    refine g_ldc dX4_change_47 lc_X4_34 ?_
    refine g_callV1i (c_X4_finds 0 (by decide) (by decide)) mi_X4_finds mv_X4_finds ml_X4_36 dX4_change_49 rfl rfl (by decide) (Nat.le_of_ble_eq_true rfl) (Nat.le_of_ble_eq_true rfl) ?_
    exact g_ireturn dX4_change_52 (by simp_all [f_change, oV, fvl_0, bI_0, dF]) (by simp_all [f_change, oM, bI_0, pD])
  · refine g_iload_n dX4_change_8 rfl ?_
    refine g_iconst dX4_change_9 ic_0 ?_
    refine g_iconst dX4_change_10 ic_5 ?_
    refine g_callS3i (c_X4_in) mi_X4_in ms_X4_in ml_X4_40 dX4_change_11 (by decide) (Nat.le_of_ble_eq_true rfl) (Nat.le_of_ble_eq_true rfl) ?_
    refine g_if_eq 46 dX4_change_14 (by decide) (fun c14 => ?_) (fun c14 => ?_)
    · refine g_aload_n dX4_change_46 rfl ?_
      refine g_ldc dX4_change_47 lc_X4_34 ?_
      refine g_callV1i (c_X4_finds 0 (by decide) (by decide)) mi_X4_finds mv_X4_finds ml_X4_36 dX4_change_49 rfl rfl (by decide) (Nat.le_of_ble_eq_true rfl) (Nat.le_of_ble_eq_true rfl) ?_
      exact g_ireturn dX4_change_52 (by simp_all [f_change, oV, fvl_0, bI_0, dF]) (by simp_all [f_change, oM, bI_0, pD])
    · obtain ⟨j, lj, hj, tj, rfl⟩ := isD_of2 hI (nb0 c5)
      obtain ⟨i, hi, ti, rfl⟩ := inB_of 5 (by decide) (nb0 c14)
      refine g_iload_n dX4_change_17 rfl ?_
      refine g_iconst dX4_change_18 ic_0 ?_
      refine g_iload_n dX4_change_19 rfl ?_
      refine g_callS1i (c_X4_mostOf hi) mi_X4_mostOf ms_X4_mostOf ml_X4_83 dX4_change_20 (by decide) (Nat.le_of_ble_eq_true rfl) (Nat.le_of_ble_eq_true rfl) ?_
      refine g_callS3i (c_X4_in) mi_X4_in ms_X4_in ml_X4_40 dX4_change_23 (by decide) (Nat.le_of_ble_eq_true rfl) (Nat.le_of_ble_eq_true rfl) ?_
      refine g_if_eq 46 dX4_change_26 (by decide) (fun c26 => ?_) (fun c26 => ?_)
      · refine g_aload_n dX4_change_46 rfl ?_
        refine g_ldc dX4_change_47 lc_X4_34 ?_
        refine g_callV1i (c_X4_finds 0 (by decide) (by decide)) mi_X4_finds mv_X4_finds ml_X4_36 dX4_change_49 rfl rfl (by decide) (Nat.le_of_ble_eq_true rfl) (Nat.le_of_ble_eq_true rfl) ?_
        exact g_ireturn dX4_change_52 (by simp_all [f_change, oV, fvl_0, bI_0, dF]) (by simp_all [f_change, oM, bI_0, pD])
      · refine g_aload_n dX4_change_29 rfl ?_
        refine g_bipush dX4_change_30 bp_10 ?_
        refine g_bipush dX4_change_32 bp_6 ?_
        refine g_iload_n dX4_change_34 rfl ?_
        refine g_imul dX4_change_35 ?_
        refine g_iadd dX4_change_36 ?_
        refine g_iload_n dX4_change_37 rfl ?_
        refine g_iadd dX4_change_38 ?_
        refine g_st (st2 := [.int (nI (10 + (j * 6 + i))), .ref 28]) (by rw [jx6]) ?_
        refine g_iload_n dX4_change_39 rfl ?_
        refine g_callV2i (c_X4_becomes (by omega)) mi_X4_becomes mv_X4_becomes ml_X4_59 dX4_change_40 rfl rfl (by decide) (Nat.le_of_ble_eq_true rfl) (Nat.le_of_ble_eq_true rfl) ?_
        refine g_goto 52 dX4_change_43 (by decide) ?_
        exact g_ireturn dX4_change_52 (by simp_all [f_change, oV, fvl_0, bI_0, dF]) (by simp_all [f_change, oM, bI_0, pD])

set_option maxRecDepth 100000 in
set_option maxHeartbeats 4000000 in
theorem c_X4_ofGuest {X : Sc} {h : Hp} (hI : In (h 11)) {d k : Int32} : Ct X yX4_ofGuest cX4_ofGuest 3 (some .int) 2 [.ref 28, .int d, .int k] h (some (.int (oV (f_ofGuest (h 11) d k)))) (oM h (f_ofGuest (h 11) d k)) := by
  refine ⟨rfl, ?_⟩
  refine g_aload_n dX4_ofGuest_0 rfl ?_
  refine g_iload_n dX4_ofGuest_1 rfl ?_
  refine g_callV1i (c_X4_isGuest hI) mi_X4_isGuest mv_X4_isGuest ml_X4_86 dX4_ofGuest_2 rfl rfl (by decide) (Nat.le_of_ble_eq_true rfl) (Nat.le_of_ble_eq_true rfl) ?_
  refine g_if_eq 26 dX4_ofGuest_5 (by decide) (fun c5 => ?_) (fun c5 => ?_)
  · refine g_aload_n dX4_ofGuest_26 rfl ?_
    refine g_ldc dX4_ofGuest_27 lc_X4_34 ?_
    refine g_callV1i (c_X4_finds 0 (by decide) (by decide)) mi_X4_finds mv_X4_finds ml_X4_36 dX4_ofGuest_29 rfl rfl (by decide) (Nat.le_of_ble_eq_true rfl) (Nat.le_of_ble_eq_true rfl) ?_
    exact g_ireturn dX4_ofGuest_32 (by simp_all [f_ofGuest, oV, fvl_0, fvl_1, fvl_2, fvl_3, fvl_4, fvl_5, fvl_6, bI_0]) (by simp_all [f_ofGuest, oM, bI_0, setg_id])
  · refine g_iload_n dX4_ofGuest_8 rfl ?_
    refine g_iconst dX4_ofGuest_9 ic_0 ?_
    refine g_iconst dX4_ofGuest_10 ic_4 ?_
    refine g_callS3i (c_X4_in) mi_X4_in ms_X4_in ml_X4_40 dX4_ofGuest_11 (by decide) (Nat.le_of_ble_eq_true rfl) (Nat.le_of_ble_eq_true rfl) ?_
    refine g_if_eq 26 dX4_ofGuest_14 (by decide) (fun c14 => ?_) (fun c14 => ?_)
    · refine g_aload_n dX4_ofGuest_26 rfl ?_
      refine g_ldc dX4_ofGuest_27 lc_X4_34 ?_
      refine g_callV1i (c_X4_finds 0 (by decide) (by decide)) mi_X4_finds mv_X4_finds ml_X4_36 dX4_ofGuest_29 rfl rfl (by decide) (Nat.le_of_ble_eq_true rfl) (Nat.le_of_ble_eq_true rfl) ?_
      exact g_ireturn dX4_ofGuest_32 (by simp_all [f_ofGuest, oV, fvl_0, fvl_1, fvl_2, fvl_3, fvl_4, fvl_5, fvl_6, bI_0]) (by simp_all [f_ofGuest, oM, bI_0, setg_id])
    · obtain ⟨j, lj, hj, tj, rfl⟩ := isG_of2 hI (nb0 c5)
      obtain ⟨i, hi, ti, rfl⟩ := inB_of 4 (by decide) (nb0 c14)
      refine g_aload_n dX4_ofGuest_17 rfl ?_
      refine g_iload_n dX4_ofGuest_18 rfl ?_
      refine g_iload_n dX4_ofGuest_19 rfl ?_
      refine g_callV2i (c_X4_his hj (by omega)) mi_X4_his mv_X4_his ml_X4_44 dX4_ofGuest_20 rfl rfl (by decide) (Nat.le_of_ble_eq_true rfl) (Nat.le_of_ble_eq_true rfl) ?_
      refine g_goto 32 dX4_ofGuest_23 (by decide) ?_
      exact g_ireturn dX4_ofGuest_32 (by simp_all [f_ofGuest, oV, fvl_0, fvl_1, fvl_2, fvl_3, fvl_4, fvl_5, fvl_6, bI_0]) (by simp_all [f_ofGuest, oM, bI_0, setg_id])

set_option maxRecDepth 100000 in
set_option maxHeartbeats 4000000 in
theorem c_X4_seat {X : Sc} {h : Hp} (hI : In (h 11)) {d k v : Int32} : Ct X yX4_seat cX4_seat 4 (some .int) 2 [.ref 28, .int d, .int k, .int v] h (some (.int (oV (f_seat (h 11) d k v)))) (oM h (f_seat (h 11) d k v)) := by
  refine ⟨rfl, ?_⟩
  refine g_aload_n dX4_seat_0 rfl ?_
  refine g_iload_n dX4_seat_1 rfl ?_
  refine g_callV1i (c_X4_isGuest hI) mi_X4_isGuest mv_X4_isGuest ml_X4_86 dX4_seat_2 rfl rfl (by decide) (Nat.le_of_ble_eq_true rfl) (Nat.le_of_ble_eq_true rfl) ?_
  refine g_if_eq 45 dX4_seat_5 (by decide) (fun c5 => ?_) (fun c5 => ?_)
  · refine g_aload_n dX4_seat_45 rfl ?_
    refine g_ldc dX4_seat_46 lc_X4_34 ?_
    refine g_callV1i (c_X4_finds 0 (by decide) (by decide)) mi_X4_finds mv_X4_finds ml_X4_36 dX4_seat_48 rfl rfl (by decide) (Nat.le_of_ble_eq_true rfl) (Nat.le_of_ble_eq_true rfl) ?_
    exact g_ireturn dX4_seat_51 (by simp_all [f_seat, oV, fvl_0, bI_0, gF]) (by simp_all [f_seat, oM, bI_0, pG])
  · refine g_iload_n dX4_seat_8 rfl ?_
    refine g_iconst dX4_seat_9 ic_0 ?_
    refine g_iconst dX4_seat_10 ic_4 ?_
    refine g_callS3i (c_X4_in) mi_X4_in ms_X4_in ml_X4_40 dX4_seat_11 (by decide) (Nat.le_of_ble_eq_true rfl) (Nat.le_of_ble_eq_true rfl) ?_
    refine g_if_eq 45 dX4_seat_14 (by decide) (fun c14 => ?_) (fun c14 => ?_)
    · refine g_aload_n dX4_seat_45 rfl ?_
      refine g_ldc dX4_seat_46 lc_X4_34 ?_
      refine g_callV1i (c_X4_finds 0 (by decide) (by decide)) mi_X4_finds mv_X4_finds ml_X4_36 dX4_seat_48 rfl rfl (by decide) (Nat.le_of_ble_eq_true rfl) (Nat.le_of_ble_eq_true rfl) ?_
      exact g_ireturn dX4_seat_51 (by simp_all [f_seat, oV, fvl_0, bI_0, gF]) (by simp_all [f_seat, oM, bI_0, pG])
    · obtain ⟨j, lj, hj, tj, rfl⟩ := isG_of2 hI (nb0 c5)
      obtain ⟨i, hi, ti, rfl⟩ := inB_of 4 (by decide) (nb0 c14)
      refine g_iload_n dX4_seat_17 rfl ?_
      refine g_iconst dX4_seat_18 ic_0 ?_
      refine g_iload_n dX4_seat_19 rfl ?_
      refine g_callS1i (c_X4_mostOfGuest hi) mi_X4_mostOfGuest ms_X4_mostOfGuest ml_X4_90 dX4_seat_20 (by decide) (Nat.le_of_ble_eq_true rfl) (Nat.le_of_ble_eq_true rfl) ?_
      refine g_callS3i (c_X4_in) mi_X4_in ms_X4_in ml_X4_40 dX4_seat_23 (by decide) (Nat.le_of_ble_eq_true rfl) (Nat.le_of_ble_eq_true rfl) ?_
      refine g_if_eq 45 dX4_seat_26 (by decide) (fun c26 => ?_) (fun c26 => ?_)
      · refine g_aload_n dX4_seat_45 rfl ?_
        refine g_ldc dX4_seat_46 lc_X4_34 ?_
        refine g_callV1i (c_X4_finds 0 (by decide) (by decide)) mi_X4_finds mv_X4_finds ml_X4_36 dX4_seat_48 rfl rfl (by decide) (Nat.le_of_ble_eq_true rfl) (Nat.le_of_ble_eq_true rfl) ?_
        exact g_ireturn dX4_seat_51 (by simp_all [f_seat, oV, fvl_0, bI_0, gF]) (by simp_all [f_seat, oM, bI_0, pG])
      · refine g_aload_n dX4_seat_29 rfl ?_
        refine g_bipush dX4_seat_30 bp_58 ?_
        refine g_iconst dX4_seat_32 ic_5 ?_
        refine g_iload_n dX4_seat_33 rfl ?_
        refine g_imul dX4_seat_34 ?_
        refine g_iadd dX4_seat_35 ?_
        refine g_iload_n dX4_seat_36 rfl ?_
        refine g_iadd dX4_seat_37 ?_
        refine g_st (st2 := [.int (nI (58 + (j * 5 + i))), .ref 28]) (by rw [jx5]) ?_
        refine g_iload_n dX4_seat_38 rfl ?_
        refine g_callV2i (c_X4_becomes (by omega)) mi_X4_becomes mv_X4_becomes ml_X4_59 dX4_seat_39 rfl rfl (by decide) (Nat.le_of_ble_eq_true rfl) (Nat.le_of_ble_eq_true rfl) ?_
        refine g_goto 51 dX4_seat_42 (by decide) ?_
        exact g_ireturn dX4_seat_51 (by simp_all [f_seat, oV, fvl_0, bI_0, gF]) (by simp_all [f_seat, oM, bI_0, pG])

set_option maxRecDepth 100000 in
set_option maxHeartbeats 4000000 in
theorem c_X4_would {X : Sc} {h : Hp} (hI : In (h 11)) {g d k : Int32} : Ct X yX4_would cX4_would 5 (some .int) 3 [.ref 28, .int g, .int d, .int k] h (some (.int (oV (f_would (h 11) g d k)))) (oM h (f_would (h 11) g d k)) := by
  refine ⟨rfl, ?_⟩
  refine g_aload_n dX4_would_0 rfl ?_
  refine g_iload_n dX4_would_1 rfl ?_
  refine g_callV1i (c_X4_isGuest hI) mi_X4_isGuest mv_X4_isGuest ml_X4_86 dX4_would_2 rfl rfl (by decide) (Nat.le_of_ble_eq_true rfl) (Nat.le_of_ble_eq_true rfl) ?_
  refine g_if_eq 16 dX4_would_5 (by decide) (fun c5 => ?_) (fun c5 => ?_)
  · refine g_aload_n dX4_would_16 rfl ?_
    refine g_ldc dX4_would_17 lc_X4_34 ?_
    refine g_callV1i (c_X4_finds 0 (by decide) (by decide)) mi_X4_finds mv_X4_finds ml_X4_36 dX4_would_19 rfl rfl (by decide) (Nat.le_of_ble_eq_true rfl) (Nat.le_of_ble_eq_true rfl) ?_
    exact g_ireturn dX4_would_22 (by first | (simp_all [f_would, oV, fvl_0, bI_0, twn]; done) | (simp_all [f_would, oV, bI]; done)) (by simp_all [f_would, oM, setg_id, bI_0])
  · refine g_aload_n dX4_would_8 rfl ?_
    refine g_iload_n dX4_would_9 rfl ?_
    refine g_callV1i (c_X4_isDish hI) mi_X4_isDish mv_X4_isDish ml_X4_80 dX4_would_10 rfl rfl (by decide) (Nat.le_of_ble_eq_true rfl) (Nat.le_of_ble_eq_true rfl) ?_
    refine g_if_ne 23 dX4_would_13 (by decide) (fun c13 => ?_) (fun c13 => ?_)
    · obtain ⟨e, le, he, te, rfl⟩ := isG_of2 hI (nb0 c5)
      obtain ⟨j, lj, hj, tj, rfl⟩ := isD_of2 hI (nb0 c13)
      refine g_aload_n dX4_would_23 rfl ?_
      refine g_iload_n dX4_would_24 rfl ?_
      refine g_iload_n dX4_would_25 rfl ?_
      refine g_callV2i (c_X4_isLeft hI he hj) mi_X4_isLeft mv_X4_isLeft ml_X4_93 dX4_would_26 rfl rfl (by decide) (Nat.le_of_ble_eq_true rfl) (Nat.le_of_ble_eq_true rfl) ?_
      refine g_istore dX4_would_29 (by decide) rfl ?_
      refine g_iload_n dX4_would_31 rfl ?_
      refine g_tswc (0) (0) (32) 64 dX4_would_32 (by decide) (by decide) (by decide) rfl (by decide) (fun c32 => ?_) (fun c32_0 n32_0 => ?_)
      · refine g_iload dX4_would_64 rfl ?_
        refine g_if_eq 73 dX4_would_66 (by decide) (fun c66 => ?_) (fun c66 => ?_)
        · refine g_iconst dX4_would_73 ic_0 ?_
          exact g_ireturn dX4_would_74 (by first | (simp_all [f_would, oV, fvl_0, bI_0, twn]; done) | (simp_all [f_would, oV, bI]; done)) (by simp_all [f_would, oM, setg_id, bI_0])
        · refine g_iconst dX4_would_69 ic_1 ?_
          refine g_goto 74 dX4_would_70 (by decide) ?_
          exact g_ireturn dX4_would_74 (by first | (simp_all [f_would, oV, fvl_0, bI_0, twn]; done) | (simp_all [f_would, oV, bI]; done)) (by simp_all [f_would, oM, setg_id, bI_0])
      refine g_tswc (1) (1) (43) 75 dX4_would_32 (by decide) (by decide) (by decide) rfl (by decide) (fun c32 => ?_) (fun c32_1 n32_1 => ?_)
      · refine g_aload_n dX4_would_75 rfl ?_
        refine g_iload_n dX4_would_76 rfl ?_
        refine g_iload_n dX4_would_77 rfl ?_
        refine g_iload dX4_would_78 rfl ?_
        refine g_callV3i (c_X4_costs he hj) mi_X4_costs mv_X4_costs ml_X4_96 dX4_would_80 rfl rfl (by decide) (Nat.le_of_ble_eq_true rfl) (Nat.le_of_ble_eq_true rfl) ?_
        exact g_ireturn dX4_would_83 (by first | (simp_all [f_would, oV, fvl_0, bI_0, twn]; done) | (simp_all [f_would, oV, bI]; done)) (by simp_all [f_would, oM, setg_id, bI_0])
      refine g_tswc (2) (2) (52) 84 dX4_would_32 (by decide) (by decide) (by decide) rfl (by decide) (fun c32 => ?_) (fun c32_2 n32_2 => ?_)
      · refine g_aload_n dX4_would_84 rfl ?_
        refine g_iload_n dX4_would_85 rfl ?_
        refine g_iload dX4_would_86 rfl ?_
        refine g_callV2i (c_X4_bends hj) mi_X4_bends mv_X4_bends ml_X4_100 dX4_would_88 rfl rfl (by decide) (Nat.le_of_ble_eq_true rfl) (Nat.le_of_ble_eq_true rfl) ?_
        exact g_ireturn dX4_would_91 (by first | (simp_all [f_would, oV, fvl_0, bI_0, twn]; done) | (simp_all [f_would, oV, bI]; done)) (by simp_all [f_would, oM, setg_id, bI_0])
      refine g_tswc (3) (3) (60) 92 dX4_would_32 (by decide) (by decide) (by decide) rfl (by decide) (fun c32 => ?_) (fun c32_3 n32_3 => ?_)
      · refine g_aload_n dX4_would_92 rfl ?_
        refine g_iload_n dX4_would_93 rfl ?_
        refine g_iload dX4_would_94 rfl ?_
        refine g_if_eq 103 dX4_would_96 (by decide) (fun c96 => ?_) (fun c96 => ?_)
        · refine g_iconst dX4_would_103 ic_2 ?_
          first
          | refine g_callV2i (c_X4_it (w := 1) hj (by decide)) mi_X4_it mv_X4_it ml_X4_48 dX4_would_104 rfl rfl (by decide) (Nat.le_of_ble_eq_true rfl) (Nat.le_of_ble_eq_true rfl) ?_
          | refine g_callV2i (c_X4_it (w := 2) hj (by decide)) mi_X4_it mv_X4_it ml_X4_48 dX4_would_104 rfl rfl (by decide) (Nat.le_of_ble_eq_true rfl) (Nat.le_of_ble_eq_true rfl) ?_
          exact g_ireturn dX4_would_107 (by first | (simp_all [f_would, oV, fvl_0, bI_0, twn]; done) | (simp_all [f_would, oV, bI]; done)) (by simp_all [f_would, oM, setg_id, bI_0])
        · refine g_iconst dX4_would_99 ic_1 ?_
          refine g_goto 104 dX4_would_100 (by decide) ?_
          first
          | refine g_callV2i (c_X4_it (w := 1) hj (by decide)) mi_X4_it mv_X4_it ml_X4_48 dX4_would_104 rfl rfl (by decide) (Nat.le_of_ble_eq_true rfl) (Nat.le_of_ble_eq_true rfl) ?_
          | refine g_callV2i (c_X4_it (w := 2) hj (by decide)) mi_X4_it mv_X4_it ml_X4_48 dX4_would_104 rfl rfl (by decide) (Nat.le_of_ble_eq_true rfl) (Nat.le_of_ble_eq_true rfl) ?_
          exact g_ireturn dX4_would_107 (by first | (simp_all [f_would, oV, fvl_0, bI_0, twn]; done) | (simp_all [f_would, oV, bI]; done)) (by simp_all [f_would, oM, setg_id, bI_0])
      refine g_tswd 108 dX4_would_32 (by omega) (by decide) ?_
      refine g_aload_n dX4_would_108 rfl ?_
      refine g_ldc dX4_would_109 lc_X4_34 ?_
      refine g_callV1i (c_X4_finds 0 (by decide) (by decide)) mi_X4_finds mv_X4_finds ml_X4_36 dX4_would_111 rfl rfl (by decide) (Nat.le_of_ble_eq_true rfl) (Nat.le_of_ble_eq_true rfl) ?_
      exact g_ireturn dX4_would_114 (by first | (simp_all [f_would, oV, fvl_0, bI_0, twn]; done) | (simp_all [f_would, oV, bI]; done)) (by simp_all [f_would, oM, setg_id, bI_0])
    · refine g_aload_n dX4_would_16 rfl ?_
      refine g_ldc dX4_would_17 lc_X4_34 ?_
      refine g_callV1i (c_X4_finds 0 (by decide) (by decide)) mi_X4_finds mv_X4_finds ml_X4_36 dX4_would_19 rfl rfl (by decide) (Nat.le_of_ble_eq_true rfl) (Nat.le_of_ble_eq_true rfl) ?_
      exact g_ireturn dX4_would_22 (by first | (simp_all [f_would, oV, fvl_0, bI_0, twn]; done) | (simp_all [f_would, oV, bI]; done)) (by simp_all [f_would, oM, setg_id, bI_0])

set_option maxRecDepth 100000 in
set_option maxHeartbeats 4000000 in
theorem c_X4_eat {X : Sc} {h : Hp} (hI : In (h 11)) {g d : Int32} : Ct X yX4_eat cX4_eat 3 (some .int) 4 [.ref 28, .int g, .int d] h (some (.int (oV (f_eat (h 11) g d)))) (oM h (f_eat (h 11) g d)) := by
  refine ⟨rfl, ?_⟩
  refine g_aload_n dX4_eat_0 rfl ?_
  refine g_iload_n dX4_eat_1 rfl ?_
  refine g_callV1i (c_X4_isGuest hI) mi_X4_isGuest mv_X4_isGuest ml_X4_86 dX4_eat_2 rfl rfl (by decide) (Nat.le_of_ble_eq_true rfl) (Nat.le_of_ble_eq_true rfl) ?_
  refine g_if_eq 16 dX4_eat_5 (by decide) (fun c5 => ?_) (fun c5 => ?_)
  · refine g_aload_n dX4_eat_16 rfl ?_
    refine g_ldc dX4_eat_17 lc_X4_34 ?_
    refine g_callV1i (c_X4_finds 0 (by decide) (by decide)) mi_X4_finds mv_X4_finds ml_X4_36 dX4_eat_19 rfl rfl (by decide) (Nat.le_of_ble_eq_true rfl) (Nat.le_of_ble_eq_true rfl) ?_
    exact g_ireturn dX4_eat_22 (by simp_all [f_eat, oV, fvl_0, fvl_1, fvl_2, fvl_3, fvl_4, fvl_5, fvl_6, bI_0]) (by simp_all [f_eat, oM, bI_0, setg_id])
  · refine g_aload_n dX4_eat_8 rfl ?_
    refine g_iload_n dX4_eat_9 rfl ?_
    refine g_callV1i (c_X4_isDish hI) mi_X4_isDish mv_X4_isDish ml_X4_80 dX4_eat_10 rfl rfl (by decide) (Nat.le_of_ble_eq_true rfl) (Nat.le_of_ble_eq_true rfl) ?_
    refine g_if_ne 23 dX4_eat_13 (by decide) (fun c13 => ?_) (fun c13 => ?_)
    · obtain ⟨e, le, he, te, rfl⟩ := isG_of2 hI (nb0 c5)
      obtain ⟨j, lj, hj, tj, rfl⟩ := isD_of2 hI (nb0 c13)
      refine g_aload_n dX4_eat_23 rfl ?_
      refine g_iload_n dX4_eat_24 rfl ?_
      refine g_iconst dX4_eat_25 ic_5 ?_
      refine g_callV2i (c_X4_it (w := 5) hj (by decide)) mi_X4_it mv_X4_it ml_X4_48 dX4_eat_26 rfl rfl (by decide) (Nat.le_of_ble_eq_true rfl) (Nat.le_of_ble_eq_true rfl) ?_
      refine g_iconst dX4_eat_29 ic_1 ?_
      refine g_icmp_ne 42 dX4_eat_30 (by decide) (fun c30 => ?_) (fun c30 => ?_)
      · refine g_aload_n dX4_eat_42 rfl ?_
        refine g_iload_n dX4_eat_43 rfl ?_
        refine g_iload_n dX4_eat_44 rfl ?_
        refine g_callV2i (c_X4_eats hI he hj) mi_X4_eats mv_X4_eats ml_X4_108 dX4_eat_45 rfl rfl (by decide) (Nat.le_of_ble_eq_true rfl) (Nat.le_of_ble_eq_true rfl) ?_
        exact g_ireturn dX4_eat_48 (by simp_all [f_eat, oV, fvl_0, fvl_1, fvl_2, fvl_3, fvl_4, fvl_5, fvl_6, bI_0]) (by simp_all [f_eat, oM, bI_0, setg_id])
      · refine g_aload_n dX4_eat_33 rfl ?_
        refine g_ldc dX4_eat_34 lc_X4_107 ?_
        refine g_callV1i (c_X4_finds 4 (by decide) (by decide)) mi_X4_finds mv_X4_finds ml_X4_36 dX4_eat_36 rfl rfl (by decide) (Nat.le_of_ble_eq_true rfl) (Nat.le_of_ble_eq_true rfl) ?_
        refine g_goto 48 dX4_eat_39 (by decide) ?_
        exact g_ireturn dX4_eat_48 (by simp_all [f_eat, oV, fvl_0, fvl_1, fvl_2, fvl_3, fvl_4, fvl_5, fvl_6, bI_0]) (by simp_all [f_eat, oM, bI_0, setg_id])
    · refine g_aload_n dX4_eat_16 rfl ?_
      refine g_ldc dX4_eat_17 lc_X4_34 ?_
      refine g_callV1i (c_X4_finds 0 (by decide) (by decide)) mi_X4_finds mv_X4_finds ml_X4_36 dX4_eat_19 rfl rfl (by decide) (Nat.le_of_ble_eq_true rfl) (Nat.le_of_ble_eq_true rfl) ?_
      exact g_ireturn dX4_eat_22 (by simp_all [f_eat, oV, fvl_0, fvl_1, fvl_2, fvl_3, fvl_4, fvl_5, fvl_6, bI_0]) (by simp_all [f_eat, oM, bI_0, setg_id])

set_option maxRecDepth 100000 in
set_option maxHeartbeats 4000000 in
theorem c_X4_go {X : Sc} {h : Hp} (hI : In (h 11)) {n : Int32} : Ct X yX4_go cX4_go 2 (some .int) 6 [.ref 28, .int n] h (some (.int (oV (f_go (h 11) n)))) (oM h (f_go (h 11) n)) := by
  refine ⟨rfl, ?_⟩
  refine g_iload_n dX4_go_0 rfl ?_
  refine g_iconst dX4_go_1 ic_1 ?_
  refine g_bipush dX4_go_2 bp_60 ?_
  refine g_callS3i (c_X4_in) mi_X4_in ms_X4_in ml_X4_40 dX4_go_4 (by decide) (Nat.le_of_ble_eq_true rfl) (Nat.le_of_ble_eq_true rfl) ?_
  refine g_if_ne 17 dX4_go_7 (by decide) (fun c7 => ?_) (fun c7 => ?_)
  · obtain ⟨j, l1, hj, tj, rfl⟩ := inB_of1 60 (by decide) (nb0 c7)
    refine g_aload_n dX4_go_17 rfl ?_
    refine g_getR dX4_go_18 fl_X4_9 rfl rfl ?_
    refine g_iconst dX4_go_21 ic_0 ?_
    refine g_iald0 0 dX4_go_22 rfl rfl (by decide) ?_
    refine g_iload_n dX4_go_23 rfl ?_
    refine g_iadd dX4_go_24 ?_
    refine g_ldc dX4_go_25 lc_X4_89 ?_
    refine g_icmp_le 37 dX4_go_27 (by decide) (fun c27 => ?_) (fun c27 => ?_)
    · refine g_aload_n dX4_go_37 rfl ?_
      refine g_iload_n dX4_go_38 rfl ?_
      refine g_callV1v (c_X4_goesFor hI (by omega)) mi_X4_goesFor mv_X4_goesFor ml_X4_114 dX4_go_39 rfl rfl (by decide) (Nat.le_of_ble_eq_true rfl) (Nat.le_of_ble_eq_true rfl) ?_
      refine g_aload_n dX4_go_42 rfl ?_
      refine g_callV0i (c_X4_bills (by rw [setg_s]; exact hI.days _)) mi_X4_bills mv_X4_bills ml_X4_118 dX4_go_43 rfl rfl (by decide) (Nat.le_of_ble_eq_true rfl) (Nat.le_of_ble_eq_true rfl) ?_
      exact g_ireturn dX4_go_46 (by simp_all [f_go, oV, fvl_0, fvl_4, bI_0, setg_s]) (by simp_all [f_go, oM, bI_0, setg_id])
    · refine g_aload_n dX4_go_30 rfl ?_
      refine g_ldc dX4_go_31 lc_X4_107 ?_
      refine g_callV1i (c_X4_finds 4 (by decide) (by decide)) mi_X4_finds mv_X4_finds ml_X4_36 dX4_go_33 rfl rfl (by decide) (Nat.le_of_ble_eq_true rfl) (Nat.le_of_ble_eq_true rfl) ?_
      exact g_ireturn dX4_go_36 (by rw [f_go, if_pos (nb0 c7), if_neg c27]; rfl) (by rw [f_go, if_pos (nb0 c7), if_neg c27]; rfl)
  · refine g_aload_n dX4_go_10 rfl ?_
    refine g_ldc dX4_go_11 lc_X4_34 ?_
    refine g_callV1i (c_X4_finds 0 (by decide) (by decide)) mi_X4_finds mv_X4_finds ml_X4_36 dX4_go_13 rfl rfl (by decide) (Nat.le_of_ble_eq_true rfl) (Nat.le_of_ble_eq_true rfl) ?_
    exact g_ireturn dX4_go_16 (by simp_all [f_go, oV, fvl_0, fvl_4, bI_0, setg_s]) (by simp_all [f_go, oM, bI_0, setg_id])

set_option maxRecDepth 100000 in
set_option maxHeartbeats 4000000 in
theorem c_X4_now {X : Sc} {h : Hp} (hI : In (h 11)) {k : Int32} : Ct X yX4_now cX4_now 2 (some .int) 3 [.ref 28, .int k] h (some (.int (oV (f_now (h 11) k)))) (oM h (f_now (h 11) k)) := by
  refine ⟨rfl, ?_⟩
  refine g_iload_n dX4_now_0 rfl ?_
  refine g_tswc (0) (0) (47) 48 dX4_now_1 (by decide) (by decide) (by decide) rfl (by decide) (fun c1 => ?_) (fun c1_0 n1_0 => ?_)
  · refine g_aload_n dX4_now_48 rfl ?_
    refine g_getR dX4_now_49 fl_X4_9 rfl rfl ?_
    refine g_iconst dX4_now_52 ic_0 ?_
    refine g_iald0 0 dX4_now_53 rfl rfl (by decide) ?_
    exact g_ireturn dX4_now_54 (by simp_all [f_now, oV, fvl_0, fvl_1, fvl_2, fvl_3, fvl_4, fvl_5, fvl_6, bI_0]) (by simp_all [f_now, oM, bI_0, setg_id])
  refine g_tswc (1) (1) (54) 55 dX4_now_1 (by decide) (by decide) (by decide) rfl (by decide) (fun c1 => ?_) (fun c1_1 n1_1 => ?_)
  · refine g_aload_n dX4_now_55 rfl ?_
    refine g_callV0i (c_X4_bills hI) mi_X4_bills mv_X4_bills ml_X4_118 dX4_now_56 rfl rfl (by decide) (Nat.le_of_ble_eq_true rfl) (Nat.le_of_ble_eq_true rfl) ?_
    exact g_ireturn dX4_now_59 (by simp_all [f_now, oV, fvl_0, fvl_1, fvl_2, fvl_3, fvl_4, fvl_5, fvl_6, bI_0]) (by simp_all [f_now, oM, bI_0, setg_id])
  refine g_tswc (2) (2) (59) 60 dX4_now_1 (by decide) (by decide) (by decide) rfl (by decide) (fun c1 => ?_) (fun c1_2 n1_2 => ?_)
  · refine g_aload_n dX4_now_60 rfl ?_
    refine g_callV0i (c_X4_aims hI) mi_X4_aims mv_X4_aims ml_X4_122 dX4_now_61 rfl rfl (by decide) (Nat.le_of_ble_eq_true rfl) (Nat.le_of_ble_eq_true rfl) ?_
    exact g_ireturn dX4_now_64 (by simp_all [f_now, oV, fvl_0, fvl_1, fvl_2, fvl_3, fvl_4, fvl_5, fvl_6, bI_0]) (by simp_all [f_now, oM, bI_0, setg_id])
  refine g_tswc (3) (3) (64) 65 dX4_now_1 (by decide) (by decide) (by decide) rfl (by decide) (fun c1 => ?_) (fun c1_3 n1_3 => ?_)
  · refine g_aload_n dX4_now_65 rfl ?_
    refine g_callV0i (c_X4_allBeen hI) mi_X4_allBeen mv_X4_allBeen ml_X4_125 dX4_now_66 rfl rfl (by decide) (Nat.le_of_ble_eq_true rfl) (Nat.le_of_ble_eq_true rfl) ?_
    exact g_ireturn dX4_now_69 (by simp_all [f_now, oV, fvl_0, fvl_1, fvl_2, fvl_3, fvl_4, fvl_5, fvl_6, bI_0]) (by simp_all [f_now, oM, bI_0, setg_id])
  refine g_tswc (4) (4) (69) 70 dX4_now_1 (by decide) (by decide) (by decide) rfl (by decide) (fun c1 => ?_) (fun c1_4 n1_4 => ?_)
  · refine g_aload_n dX4_now_70 rfl ?_
    refine g_callV0i (c_X4_allServed hI) mi_X4_allServed mv_X4_allServed ml_X4_128 dX4_now_71 rfl rfl (by decide) (Nat.le_of_ble_eq_true rfl) (Nat.le_of_ble_eq_true rfl) ?_
    exact g_ireturn dX4_now_74 (by simp_all [f_now, oV, fvl_0, fvl_1, fvl_2, fvl_3, fvl_4, fvl_5, fvl_6, bI_0]) (by simp_all [f_now, oM, bI_0, setg_id])
  refine g_tswc (5) (5) (74) 75 dX4_now_1 (by decide) (by decide) (by decide) rfl (by decide) (fun c1 => ?_) (fun c1_5 n1_5 => ?_)
  · refine g_aload_n dX4_now_75 rfl ?_
    refine g_callV0i (c_X4_pairsApart hI) mi_X4_pairsApart mv_X4_pairsApart ml_X4_131 dX4_now_76 rfl rfl (by decide) (Nat.le_of_ble_eq_true rfl) (Nat.le_of_ble_eq_true rfl) ?_
    exact g_ireturn dX4_now_79 (by simp_all [f_now, oV, fvl_0, fvl_1, fvl_2, fvl_3, fvl_4, fvl_5, fvl_6, bI_0]) (by simp_all [f_now, oM, bI_0, setg_id])
  refine g_tswc (6) (6) (79) 80 dX4_now_1 (by decide) (by decide) (by decide) rfl (by decide) (fun c1 => ?_) (fun c1_6 n1_6 => ?_)
  · refine g_aload_n dX4_now_80 rfl ?_
    refine g_callV0i (c_X4_onCard hI) mi_X4_onCard mv_X4_onCard ml_X4_134 dX4_now_81 rfl rfl (by decide) (Nat.le_of_ble_eq_true rfl) (Nat.le_of_ble_eq_true rfl) ?_
    exact g_ireturn dX4_now_84 (by simp_all [f_now, oV, fvl_0, fvl_1, fvl_2, fvl_3, fvl_4, fvl_5, fvl_6, bI_0]) (by simp_all [f_now, oM, bI_0, setg_id])
  refine g_tswc (7) (7) (84) 85 dX4_now_1 (by decide) (by decide) (by decide) rfl (by decide) (fun c1 => ?_) (fun c1_7 n1_7 => ?_)
  · refine g_aload_n dX4_now_85 rfl ?_
    refine g_callV0i (c_X4_debtor hI) mi_X4_debtor mv_X4_debtor ml_X4_137 dX4_now_86 rfl rfl (by decide) (Nat.le_of_ble_eq_true rfl) (Nat.le_of_ble_eq_true rfl) ?_
    exact g_ireturn dX4_now_89 (by simp_all [f_now, oV, fvl_0, fvl_1, fvl_2, fvl_3, fvl_4, fvl_5, fvl_6, bI_0]) (by simp_all [f_now, oM, bI_0, setg_id])
  refine g_tswd 90 dX4_now_1 (by omega) (by decide) ?_
  refine g_aload_n dX4_now_90 rfl ?_
  refine g_ldc dX4_now_91 lc_X4_34 ?_
  refine g_callV1i (c_X4_finds 0 (by decide) (by decide)) mi_X4_finds mv_X4_finds ml_X4_36 dX4_now_93 rfl rfl (by decide) (Nat.le_of_ble_eq_true rfl) (Nat.le_of_ble_eq_true rfl) ?_
  exact g_ireturn dX4_now_96 (by simp_all [f_now, oV, fvl_0, fvl_1, fvl_2, fvl_3, fvl_4, fvl_5, fvl_6, bI_0]) (by simp_all [f_now, oM, bI_0, setg_id])

def hM (h : Hp) (F : Oc) : Hp := setg (oM h F) 13 (hQt (h 11) (h 13) F)
theorem hM_k (h : Hp) (k : Nat) (n : k ≠ 3) {F : Oc} (e : F = .inl k) : setg h 15 (inc (h 15) k) = hM h F := by
  subst e
  show _ = setg (setg h 15 (inc (h 15) k)) 13 (if k = 3 then h 11 else h 13)
  rw [if_neg n]
  funext a
  by_cases q : a = 13
  · subst q; simp [setg]
  · simp [setg, q]
theorem hM_0 (h : Hp) {F : Oc} (e : F = .inl 0) : setg h 15 (inc (h 15) 0) = hM h F := hM_k h 0 (by decide) e
theorem hM_v (h : Hp) {F : Oc} {v : Int32} (e : F = .inr (v, h 11)) : setg h 13 (h 11) = hM h F := by
  subst e
  simp [hM, oM, setg_id, hQt]
def oXM (h : Hp) : Option Nat → Hp
  | some _ => setg h 13 (h 11)
  | none => setg (setg h 13 (h 11)) 15 (inc ((setg h 13 (h 11)) 15) 3)
theorem hM_x (h : Hp) (q : Option Nat) {F : Oc} (e : F = oF (h 11) q) : oXM h q = hM h F := by
  subst e
  cases q with
  | some n => simp [hM, oXM, oF, oM, setg_id, hQt]
  | none =>
    simp only [hM, oXM, oF, oM, hQt]
    rw [if_pos trivial, setg_c _ (by decide), setg_n _ _ (by decide)]
/-- it is thought, and put back -/
theorem back (h : Hp) (M : Rw) : setg (setg (setg h 13 (h 11)) 11 M) 11 ((setg (setg h 13 (h 11)) 11 M) 13) = setg h 13 (h 11) := by
  rw [setg_2, setg_n _ _ (by decide), setg_s]
  funext a
  by_cases q : a = 11
  · subst q; simp [setg]
  · simp [setg, q]
theorem think1 (h : Hp) : setg (setg h 13 (h 11)) 11 (h 11) = setg h 13 (h 11) := by
  funext a
  by_cases q : a = 11
  · subst q; simp [setg]
  · simp [setg, q]
set_option maxRecDepth 100000 in
set_option maxHeartbeats 4000000 in
theorem c_X4_behind {X : Sc} {h : Hp} (hI : In (h 11)) {q n : Nat} (hq : q < 98) (hn : n < 2 ^ 31) : Ct X yX4_behind cX4_behind 4 (some .int) 6 [.ref 28, .int (nI q), .int (nI n)] h (some (.int (daysR (h 11) n q))) (setg h 13 (h 11)) := by
  refine ⟨rfl, ?_⟩
  refine g_aload_n dX4_behind_0 rfl ?_
  refine g_callV0v (c_X4_thinks) mi_X4_thinks mv_X4_thinks ml_X4_144 dX4_behind_1 rfl rfl (by decide) (Nat.le_of_ble_eq_true rfl) (Nat.le_of_ble_eq_true rfl) ?_
  refine g_aload_n dX4_behind_4 rfl ?_
  refine g_iload_n dX4_behind_5 rfl ?_
  refine g_callV1v (c_X4_goesFor (by rw [setg_n _ _ (by decide)]; exact hI) hn) mi_X4_goesFor mv_X4_goesFor ml_X4_114 dX4_behind_6 rfl rfl (by decide) (Nat.le_of_ble_eq_true rfl) (Nat.le_of_ble_eq_true rfl) ?_
  refine g_aload_n dX4_behind_9 rfl ?_
  refine g_getR dX4_behind_10 fl_X4_9 rfl rfl ?_
  refine g_iload_n dX4_behind_13 rfl ?_
  refine g_iald0 q dX4_behind_14 rfl rfl hq ?_
  refine g_st (st2 := [.int (daysR (h 11) n q)]) (by rw [setg_s, setg_n _ _ (by decide)]) ?_
  refine g_istore_n dX4_behind_15 (by decide) rfl ?_
  refine g_aload_n dX4_behind_16 rfl ?_
  refine g_callV0v (c_X4_putsBack) mi_X4_putsBack mv_X4_putsBack ml_X4_147 dX4_behind_17 rfl rfl (by decide) (Nat.le_of_ble_eq_true rfl) (Nat.le_of_ble_eq_true rfl) ?_
  refine g_iload_n dX4_behind_20 rfl ?_
  exact g_ireturn dX4_behind_21 rfl (back _ _)

set_option maxRecDepth 100000 in
set_option maxHeartbeats 4000000 in
theorem c_X4_ahead {X : Sc} {h : Hp} (hI : In (h 11)) {g k n : Int32} : Ct X yX4_ahead cX4_ahead 4 (some .int) 7 [.ref 28, .int g, .int k, .int n] h (some (.int (oV (f_ahead (h 11) g k n)))) (hM h (f_ahead (h 11) g k n)) := by
  refine ⟨rfl, ?_⟩
  refine g_aload_n dX4_ahead_0 rfl ?_
  refine g_iload_n dX4_ahead_1 rfl ?_
  refine g_callV1i (c_X4_isGuest hI) mi_X4_isGuest mv_X4_isGuest ml_X4_86 dX4_ahead_2 rfl rfl (by decide) (Nat.le_of_ble_eq_true rfl) (Nat.le_of_ble_eq_true rfl) ?_
  refine g_if_eq 43 dX4_ahead_5 (by decide) (fun c5 => ?_) (fun c5 => ?_)
  · refine g_aload_n dX4_ahead_43 rfl ?_
    refine g_ldc dX4_ahead_44 lc_X4_34 ?_
    refine g_callV1i (c_X4_finds 0 (by decide) (by decide)) mi_X4_finds mv_X4_finds ml_X4_36 dX4_ahead_46 rfl rfl (by decide) (Nat.le_of_ble_eq_true rfl) (Nat.le_of_ble_eq_true rfl) ?_
    exact g_ireturn dX4_ahead_49 (by simp_all [f_ahead, oV, fvl_0, fvl_1, fvl_2, fvl_3, fvl_4, fvl_5, fvl_6, bI_0]) (hM_0 _ (by simp_all [f_ahead, bI_0]))
  · refine g_iload_n dX4_ahead_8 rfl ?_
    refine g_iconst dX4_ahead_9 ic_0 ?_
    refine g_iconst dX4_ahead_10 ic_4 ?_
    refine g_callS3i (c_X4_in) mi_X4_in ms_X4_in ml_X4_40 dX4_ahead_11 (by decide) (Nat.le_of_ble_eq_true rfl) (Nat.le_of_ble_eq_true rfl) ?_
    refine g_if_eq 43 dX4_ahead_14 (by decide) (fun c14 => ?_) (fun c14 => ?_)
    · refine g_aload_n dX4_ahead_43 rfl ?_
      refine g_ldc dX4_ahead_44 lc_X4_34 ?_
      refine g_callV1i (c_X4_finds 0 (by decide) (by decide)) mi_X4_finds mv_X4_finds ml_X4_36 dX4_ahead_46 rfl rfl (by decide) (Nat.le_of_ble_eq_true rfl) (Nat.le_of_ble_eq_true rfl) ?_
      exact g_ireturn dX4_ahead_49 (by simp_all [f_ahead, oV, fvl_0, fvl_1, fvl_2, fvl_3, fvl_4, fvl_5, fvl_6, bI_0]) (hM_0 _ (by simp_all [f_ahead, bI_0]))
    · refine g_iload_n dX4_ahead_17 rfl ?_
      refine g_iconst dX4_ahead_18 ic_0 ?_
      refine g_bipush dX4_ahead_19 bp_100 ?_
      refine g_callS3i (c_X4_in) mi_X4_in ms_X4_in ml_X4_40 dX4_ahead_21 (by decide) (Nat.le_of_ble_eq_true rfl) (Nat.le_of_ble_eq_true rfl) ?_
      refine g_if_eq 43 dX4_ahead_24 (by decide) (fun c24 => ?_) (fun c24 => ?_)
      · refine g_aload_n dX4_ahead_43 rfl ?_
        refine g_ldc dX4_ahead_44 lc_X4_34 ?_
        refine g_callV1i (c_X4_finds 0 (by decide) (by decide)) mi_X4_finds mv_X4_finds ml_X4_36 dX4_ahead_46 rfl rfl (by decide) (Nat.le_of_ble_eq_true rfl) (Nat.le_of_ble_eq_true rfl) ?_
        exact g_ireturn dX4_ahead_49 (by simp_all [f_ahead, oV, fvl_0, fvl_1, fvl_2, fvl_3, fvl_4, fvl_5, fvl_6, bI_0]) (hM_0 _ (by simp_all [f_ahead, bI_0]))
      · obtain ⟨e, le, he, te, rfl⟩ := isG_of2 hI (nb0 c5)
        obtain ⟨i, hi, ti, rfl⟩ := inB_of 4 (by decide) (nb0 c14)
        obtain ⟨j, hj, tj, rfl⟩ := inB_of 100 (by decide) (nb0 c24)
        refine g_aload_n dX4_ahead_27 rfl ?_
        refine g_bipush dX4_ahead_28 bp_58 ?_
        refine g_iconst dX4_ahead_30 ic_5 ?_
        refine g_iload_n dX4_ahead_31 rfl ?_
        refine g_imul dX4_ahead_32 ?_
        refine g_iadd dX4_ahead_33 ?_
        refine g_iload_n dX4_ahead_34 rfl ?_
        refine g_iadd dX4_ahead_35 ?_
        refine g_st (st2 := [.int (nI (58 + (e * 5 + i))), .ref 28]) (by rw [jx5]) ?_
        refine g_iload_n dX4_ahead_36 rfl ?_
        refine g_callV2i (c_X4_behind hI (by omega) (by omega)) mi_X4_behind mv_X4_behind ml_X4_150 dX4_ahead_37 rfl rfl (by decide) (Nat.le_of_ble_eq_true rfl) (Nat.le_of_ble_eq_true rfl) ?_
        have ef : f_ahead (h 11) (nI e) (nI i) (nI j) = .inr (gF (daysR (h 11) j) e i, h 11) := by simp_all [f_ahead, bI_0]
        rw [← hM_v h ef, ef]
        simp only [oV]
        refine g_goto 49 dX4_ahead_40 (by decide) ?_
        exact g_ireturn dX4_ahead_49 rfl rfl

set_option maxRecDepth 100000 in
set_option maxHeartbeats 4000000 in
theorem c_X4_served {X : Sc} {h : Hp} (hI : In (h 11)) {d n : Int32} : Ct X yX4_served cX4_served 3 (some .int) 7 [.ref 28, .int d, .int n] h (some (.int (oV (f_served (h 11) d n)))) (hM h (f_served (h 11) d n)) := by
  refine ⟨rfl, ?_⟩
  refine g_aload_n dX4_served_0 rfl ?_
  refine g_iload_n dX4_served_1 rfl ?_
  refine g_callV1i (c_X4_isDish hI) mi_X4_isDish mv_X4_isDish ml_X4_80 dX4_served_2 rfl rfl (by decide) (Nat.le_of_ble_eq_true rfl) (Nat.le_of_ble_eq_true rfl) ?_
  refine g_if_eq 35 dX4_served_5 (by decide) (fun c5 => ?_) (fun c5 => ?_)
  · refine g_aload_n dX4_served_35 rfl ?_
    refine g_ldc dX4_served_36 lc_X4_34 ?_
    refine g_callV1i (c_X4_finds 0 (by decide) (by decide)) mi_X4_finds mv_X4_finds ml_X4_36 dX4_served_38 rfl rfl (by decide) (Nat.le_of_ble_eq_true rfl) (Nat.le_of_ble_eq_true rfl) ?_
    exact g_ireturn dX4_served_41 (by simp_all [f_served, oV, fvl_0, fvl_1, fvl_2, fvl_3, fvl_4, fvl_5, fvl_6, bI_0]) (hM_0 _ (by simp_all [f_served, bI_0]))
  · refine g_iload_n dX4_served_8 rfl ?_
    refine g_iconst dX4_served_9 ic_0 ?_
    refine g_bipush dX4_served_10 bp_100 ?_
    refine g_callS3i (c_X4_in) mi_X4_in ms_X4_in ml_X4_40 dX4_served_12 (by decide) (Nat.le_of_ble_eq_true rfl) (Nat.le_of_ble_eq_true rfl) ?_
    refine g_if_eq 35 dX4_served_15 (by decide) (fun c15 => ?_) (fun c15 => ?_)
    · refine g_aload_n dX4_served_35 rfl ?_
      refine g_ldc dX4_served_36 lc_X4_34 ?_
      refine g_callV1i (c_X4_finds 0 (by decide) (by decide)) mi_X4_finds mv_X4_finds ml_X4_36 dX4_served_38 rfl rfl (by decide) (Nat.le_of_ble_eq_true rfl) (Nat.le_of_ble_eq_true rfl) ?_
      exact g_ireturn dX4_served_41 (by simp_all [f_served, oV, fvl_0, fvl_1, fvl_2, fvl_3, fvl_4, fvl_5, fvl_6, bI_0]) (hM_0 _ (by simp_all [f_served, bI_0]))
    · obtain ⟨e, le, he, te, rfl⟩ := isD_of2 hI (nb0 c5)
      obtain ⟨j, hj, tj, rfl⟩ := inB_of 100 (by decide) (nb0 c15)
      refine g_aload_n dX4_served_18 rfl ?_
      refine g_bipush dX4_served_19 bp_10 ?_
      refine g_bipush dX4_served_21 bp_6 ?_
      refine g_iload_n dX4_served_23 rfl ?_
      refine g_imul dX4_served_24 ?_
      refine g_iadd dX4_served_25 ?_
      refine g_iconst dX4_served_26 ic_4 ?_
      refine g_iadd dX4_served_27 ?_
      refine g_st (st2 := [.int (nI (10 + (e * 6 + 4))), .ref 28]) (by rw [← jx6]; rfl) ?_
      refine g_iload_n dX4_served_28 rfl ?_
      refine g_callV2i (c_X4_behind hI (by omega) (by omega)) mi_X4_behind mv_X4_behind ml_X4_150 dX4_served_29 rfl rfl (by decide) (Nat.le_of_ble_eq_true rfl) (Nat.le_of_ble_eq_true rfl) ?_
      have ef : f_served (h 11) (nI e) (nI j) = .inr (dF (daysR (h 11) j) e 4, h 11) := by simp_all [f_served, bI_0]
      rw [← hM_v h ef, ef]
      simp only [oV]
      refine g_goto 41 dX4_served_32 (by decide) ?_
      exact g_ireturn dX4_served_41 rfl rfl

set_option maxRecDepth 100000 in
set_option maxHeartbeats 4000000 in
theorem l_X4_when {X : Sc} {h : Hp} (hI : In (h 11)) {e : Nat} (he : e < 6) {t : Int32} : ∀ k, k ≤ 201 → fst1 (p_when (h 11) e t) 0 201 = fst1 (p_when (h 11) e t) k (201 - k) → Go X RX4 cX4_when 4 6 28 [.ref 28, .int (nI e), .int t, .int (nI k)] [] (setg (setg h 13 (h 11)) 11 (daysR (h 11) k)) (some (.int (oV (oF (h 11) (fst1 (p_when (h 11) e t) 0 201))))) (oXM h (fst1 (p_when (h 11) e t) 0 201)) := by
  refine loop_up (201) ?_ ?_
  · intro hy
    refine g_iload_n dX4_when_28 rfl ?_
    refine g_sipush dX4_when_29 sp_200 ?_
    refine g_icmp_gt 55 dX4_when_32 (by decide) (fun c32 => ?_) (fun c32 => ?_)
    · refine g_aload_n dX4_when_55 rfl ?_
      refine g_callV0v (c_X4_putsBack) mi_X4_putsBack mv_X4_putsBack ml_X4_147 dX4_when_56 rfl rfl (by decide) (Nat.le_of_ble_eq_true rfl) (Nat.le_of_ble_eq_true rfl) ?_
      refine g_h (back _ _) ?_
      refine g_iload_n dX4_when_59 rfl ?_
      refine g_sipush dX4_when_60 sp_200 ?_
      refine g_icmp_le 75 dX4_when_63 (by decide) (fun c63 => ?_) (fun c63 => ?_)
      · exact absurd c63 (by decide)
      · refine g_aload_n dX4_when_66 rfl ?_
        refine g_ldc dX4_when_67 lc_X4_35 ?_
        refine g_callV1i (c_X4_finds 3 (by decide) (by decide)) mi_X4_finds mv_X4_finds ml_X4_36 dX4_when_69 rfl rfl (by decide) (Nat.le_of_ble_eq_true rfl) (Nat.le_of_ble_eq_true rfl) ?_
        refine g_goto 76 dX4_when_72 (by decide) ?_
        exact g_ireturn dX4_when_76 (by rw [hy, fst_0]; rfl) (by rw [hy, fst_0]; rfl)
    · exact absurd (nI_lt (a := 200) (b := 201) (by decide) (by decide)) c32
  · intro k hk ih hy
    refine g_iload_n dX4_when_28 rfl ?_
    refine g_sipush dX4_when_29 sp_200 ?_
    refine g_icmp_gt 55 dX4_when_32 (by decide) (fun c32 => ?_) (fun c32 => ?_)
    · exact absurd c32 (nI_nlt (a := 200) (b := k) (by omega) (by decide))
    · refine g_aload_n dX4_when_35 rfl ?_
      refine g_iload_n dX4_when_36 rfl ?_
      refine g_iconst dX4_when_37 ic_1 ?_
      refine g_callV2i (c_X4_his (w := 1) he (by decide)) mi_X4_his mv_X4_his ml_X4_44 dX4_when_38 rfl rfl (by decide) (Nat.le_of_ble_eq_true rfl) (Nat.le_of_ble_eq_true rfl) ?_
      refine g_iload_n dX4_when_41 rfl ?_
      refine g_icmp_eq 55 dX4_when_42 (by decide) (fun c42 => ?_) (fun c42 => ?_)
      · refine g_aload_n dX4_when_55 rfl ?_
        refine g_callV0v (c_X4_putsBack) mi_X4_putsBack mv_X4_putsBack ml_X4_147 dX4_when_56 rfl rfl (by decide) (Nat.le_of_ble_eq_true rfl) (Nat.le_of_ble_eq_true rfl) ?_
        refine g_h (back _ _) ?_
        refine g_iload_n dX4_when_59 rfl ?_
        refine g_sipush dX4_when_60 sp_200 ?_
        refine g_icmp_le 75 dX4_when_63 (by decide) (fun c63 => ?_) (fun c63 => ?_)
        · refine g_iload_n dX4_when_75 rfl ?_
          exact g_ireturn dX4_when_76 (by rw [hy, fst_y (by simp_all [p_when, setg_s]) (by omega)]; rfl) (by rw [hy, fst_y (by simp_all [p_when, setg_s]) (by omega)]; rfl)
        · exact absurd (nI_le (a := k) (b := 200) (by omega) (by decide)) c63
      · refine g_aload_n dX4_when_45 rfl ?_
        refine g_callV0v (c_X4_goes (by rw [setg_s]; exact hI.days k)) mi_X4_goes mv_X4_goes ml_X4_111 dX4_when_46 rfl rfl (by decide) (Nat.le_of_ble_eq_true rfl) (Nat.le_of_ble_eq_true rfl) ?_
        refine g_iinc dX4_when_49 rfl (ii_n _) (by decide) rfl ?_
        refine g_goto 28 dX4_when_52 (by decide) ?_
        exact g_h (by rw [setg_s, setg_2]; rfl) (ih (by rw [hy, fst_n (by simp_all [p_when, setg_s]) (by omega)]))

set_option maxRecDepth 100000 in
set_option maxHeartbeats 4000000 in
theorem c_X4_when {X : Sc} {h : Hp} (hI : In (h 11)) {g t : Int32} : Ct X yX4_when cX4_when 4 (some .int) 6 [.ref 28, .int g, .int t] h (some (.int (oV (f_when (h 11) g t)))) (hM h (f_when (h 11) g t)) := by
  refine ⟨rfl, ?_⟩
  refine g_aload_n dX4_when_0 rfl ?_
  refine g_iload_n dX4_when_1 rfl ?_
  refine g_callV1i (c_X4_isGuest hI) mi_X4_isGuest mv_X4_isGuest ml_X4_86 dX4_when_2 rfl rfl (by decide) (Nat.le_of_ble_eq_true rfl) (Nat.le_of_ble_eq_true rfl) ?_
  refine g_if_eq 15 dX4_when_5 (by decide) (fun c5 => ?_) (fun c5 => ?_)
  · refine g_aload_n dX4_when_15 rfl ?_
    refine g_ldc dX4_when_16 lc_X4_34 ?_
    refine g_callV1i (c_X4_finds 0 (by decide) (by decide)) mi_X4_finds mv_X4_finds ml_X4_36 dX4_when_18 rfl rfl (by decide) (Nat.le_of_ble_eq_true rfl) (Nat.le_of_ble_eq_true rfl) ?_
    exact g_ireturn dX4_when_21 (by simp_all [f_when, oV, fvl_0, fvl_1, fvl_2, fvl_3, fvl_4, fvl_5, fvl_6, bI_0]) (hM_0 _ (by simp_all [f_when, bI_0]))
  · refine g_iload_n dX4_when_8 rfl ?_
    refine g_callS1i (c_X4_isTown) mi_X4_isTown ms_X4_isTown ml_X4_66 dX4_when_9 (by decide) (Nat.le_of_ble_eq_true rfl) (Nat.le_of_ble_eq_true rfl) ?_
    refine g_if_ne 22 dX4_when_12 (by decide) (fun c12 => ?_) (fun c12 => ?_)
    · obtain ⟨e, le, he, te, rfl⟩ := isG_of2 hI (nb0 c5)
      refine g_aload_n dX4_when_22 rfl ?_
      refine g_callV0v (c_X4_thinks) mi_X4_thinks mv_X4_thinks ml_X4_144 dX4_when_23 rfl rfl (by decide) (Nat.le_of_ble_eq_true rfl) (Nat.le_of_ble_eq_true rfl) ?_
      refine g_iconst dX4_when_26 ic_0 ?_
      refine g_istore_n dX4_when_27 (by decide) rfl ?_
      have ef : f_when (h 11) (nI e) t = oF (h 11) (fst1 (p_when (h 11) e t) 0 201) := by simp_all [f_when, bI_0]
      rw [← hM_x h _ ef, ef]
      exact g_h (think1 h).symm (l_X4_when hI he 0 (by decide) rfl)
    · refine g_aload_n dX4_when_15 rfl ?_
      refine g_ldc dX4_when_16 lc_X4_34 ?_
      refine g_callV1i (c_X4_finds 0 (by decide) (by decide)) mi_X4_finds mv_X4_finds ml_X4_36 dX4_when_18 rfl rfl (by decide) (Nat.le_of_ble_eq_true rfl) (Nat.le_of_ble_eq_true rfl) ?_
      exact g_ireturn dX4_when_21 (by simp_all [f_when, oV, fvl_0, fvl_1, fvl_2, fvl_3, fvl_4, fvl_5, fvl_6, bI_0]) (hM_0 _ (by simp_all [f_when, bI_0]))

