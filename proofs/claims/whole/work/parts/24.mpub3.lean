/-! THE REFERENCE'S CALLS, third part: sheets, spots, images -/
theorem jx40 (j k : Nat) : 40 * nI j + nI k = nI (40 * j + k) := by rw [show (40 : Int32) = nI 40 from rfl, pk_mul, nI_add]
set_option maxRecDepth 100000 in
set_option maxHeartbeats 4000000 in
theorem c_X4_notThere {X : Sc} {h : Hp} {s : Int32} : Ct X yX4_notThere cX4_notThere 2 (some .int) 2 [.ref 28, .int s] h (some (.int (trb (h 16) s))) h := by
  refine ⟨rfl, ?_⟩
  refine g_iload_n dX4_notThere_0 rfl ?_
  refine g_callS1i (c_X4_isSheet) mi_X4_isSheet ms_X4_isSheet ml_X4_170 dX4_notThere_1 (by decide) (Nat.le_of_ble_eq_true rfl) (Nat.le_of_ble_eq_true rfl) ?_
  refine g_if_ne 12 dX4_notThere_4 (by decide) (fun c4 => ?_) (fun c4 => ?_)
  · obtain ⟨j, hj, tj, rfl⟩ := inB_of 3 (by decide) (nb0 c4)
    refine g_aload_n dX4_notThere_12 rfl ?_
    refine g_getR dX4_notThere_13 fl_X4_22 rfl rfl ?_
    refine g_iload_n dX4_notThere_16 rfl ?_
    refine g_iald0 j dX4_notThere_17 rfl rfl (by omega) ?_
    refine g_if_ne 26 dX4_notThere_18 (by decide) (fun c18 => ?_) (fun c18 => ?_)
    · refine g_iconst dX4_notThere_26 ic_0 ?_
      exact g_ireturn dX4_notThere_27 (by simp_all [trb, bI_0, sB]) rfl
    · refine g_ldc dX4_notThere_21 lc_X4_173 ?_
      refine g_goto 27 dX4_notThere_23 (by decide) ?_
      exact g_ireturn dX4_notThere_27 (by simp_all [trb, bI_0, sB]) rfl
  · refine g_ldc dX4_notThere_7 lc_X4_34 ?_
    refine g_goto 27 dX4_notThere_9 (by decide) ?_
    exact g_ireturn dX4_notThere_27 (by simp_all [trb, bI_0, sB]) rfl

set_option maxRecDepth 100000 in
set_option maxHeartbeats 4000000 in
theorem l_X4_sheet {X : Sc} {h : Hp} {j : Nat} (hj : j ≤ 3) {b l z : Int32} : ∀ k, k ≤ 40 → Go X RX4 cX4_sheet 5 2 85 [.ref 28, .int (nI j), .int b, .int z, .int (nI k)] [] (setg h 16 (filR (h 16) j b l k)) (some (.int l)) (setg h 16 (filR (h 16) j b l 40)) := by
  refine loop_up (40) ?_ ?_
  · refine g_iload dX4_sheet_85 rfl ?_
    refine g_bipush dX4_sheet_87 bp_40 ?_
    refine g_icmp_ge 111 dX4_sheet_89 (by decide) (fun c89 => ?_) (fun c89 => ?_)
    · refine g_aload_n dX4_sheet_111 rfl ?_
      refine g_getR dX4_sheet_112 fl_X4_25 rfl rfl ?_
      refine g_iload_n dX4_sheet_115 rfl ?_
      refine g_iald j dX4_sheet_116 rfl rfl (by omega) ?_
      refine g_st (st2 := [.int l]) (by rw [setg_s, fil_L _ (by omega)]) ?_
      exact g_ireturn dX4_sheet_117 rfl rfl
    · exact (lp_yes ((rfl : (40 : Int32) = nI 40)) (by decide) c89).elim
  · intro k hk ih
    refine g_iload dX4_sheet_85 rfl ?_
    refine g_bipush dX4_sheet_87 bp_40 ?_
    refine g_icmp_ge 111 dX4_sheet_89 (by decide) (fun c89 => ?_) (fun c89 => ?_)
    · exact (lp_no ((rfl : (40 : Int32) = nI 40)) (by decide) hk c89).elim
    · refine g_aload_n dX4_sheet_92 rfl ?_
      refine g_getR dX4_sheet_93 fl_X4_28 rfl rfl ?_
      refine g_bipush dX4_sheet_96 bp_40 ?_
      refine g_iload_n dX4_sheet_98 rfl ?_
      refine g_imul dX4_sheet_99 ?_
      refine g_iload dX4_sheet_100 rfl ?_
      refine g_iadd dX4_sheet_102 ?_
      refine g_iconst dX4_sheet_103 ic_0 ?_
      refine g_iast (40 * j + k) dX4_sheet_104 rfl (jx40 _ _) (by omega) ?_
      refine g_iinc dX4_sheet_105 rfl (ii_n _) (by decide) rfl ?_
      refine g_goto 85 dX4_sheet_108 (by decide) ?_
      exact g_h (by rw [up_setg, setg_s, setg_2, show 8 + (40 * j + k) = 8 + 40 * j + k by omega, fil_s _ (by omega)]) ih

set_option maxRecDepth 100000 in
set_option maxHeartbeats 4000000 in
theorem c_X4_sheet {X : Sc} {h : Hp} (hI : In (h 11)) (hS : InS (h 16)) {s b n : Int32} : Ct X yX4_sheet cX4_sheet 5 (some .int) 2 [.ref 28, .int s, .int b, .int n] h (some (.int (oV (f_sheet (h 16) s b n)))) (oG 16 15 h (f_sheet (h 16) s b n)) := by
  refine ⟨rfl, ?_⟩
  refine g_iload_n dX4_sheet_0 rfl ?_
  refine g_callS1i (c_X4_isSheet) mi_X4_isSheet ms_X4_isSheet ml_X4_170 dX4_sheet_1 (by decide) (Nat.le_of_ble_eq_true rfl) (Nat.le_of_ble_eq_true rfl) ?_
  refine g_if_eq 29 dX4_sheet_4 (by decide) (fun c4 => ?_) (fun c4 => ?_)
  · refine g_aload_n dX4_sheet_29 rfl ?_
    refine g_ldc dX4_sheet_30 lc_X4_34 ?_
    refine g_callV1i (c_X4_finds 0 (by decide) (by decide)) mi_X4_finds mv_X4_finds ml_X4_36 dX4_sheet_32 rfl rfl (by decide) (Nat.le_of_ble_eq_true rfl) (Nat.le_of_ble_eq_true rfl) ?_
    exact g_ireturn dX4_sheet_35 (by simp_all [f_sheet, oV, fvl_0, fvl_1, fvl_2, fvl_3, fvl_4, fvl_5, fvl_6, bI_0]) (by simp_all [f_sheet, oG, bI_0, setg_id])
  · refine g_iload_n dX4_sheet_7 rfl ?_
    refine g_if_eq 36 dX4_sheet_8 (by decide) (fun c8 => ?_) (fun c8 => ?_)
    · have hP : (inB s 0 3 && (decide (b = 0) || decide (b = 8) || decide (b = 16) || decide (b = 32))) = true := by simp_all [bI_0]
      refine g_iload_n dX4_sheet_36 rfl ?_
      refine g_if_ge 47 dX4_sheet_37 (by decide) (fun c37 => ?_) (fun c37 => ?_)
      · refine g_iload_n dX4_sheet_47 rfl ?_
        refine g_bipush dX4_sheet_48 bp_40 ?_
        refine g_icmp_le 60 dX4_sheet_50 (by decide) (fun c50 => ?_) (fun c50 => ?_)
        · obtain ⟨j, hj, tj, rfl⟩ := inB_of 3 (by decide) (nb0 c4)
          refine g_aload_n dX4_sheet_60 rfl ?_
          refine g_getR dX4_sheet_61 fl_X4_22 rfl rfl ?_
          refine g_iload_n dX4_sheet_64 rfl ?_
          refine g_iload_n dX4_sheet_65 rfl ?_
          refine g_iast0 j dX4_sheet_66 rfl rfl (by omega) ?_
          refine g_aload_n dX4_sheet_67 rfl ?_
          refine g_getR dX4_sheet_68 fl_X4_25 rfl rfl ?_
          refine g_iload_n dX4_sheet_71 rfl ?_
          refine g_iload_n dX4_sheet_72 rfl ?_
          refine g_if_ne 80 dX4_sheet_73 (by decide) (fun c73 => ?_) (fun c73 => ?_)
          · refine g_iload_n dX4_sheet_80 rfl ?_
            refine g_iast j dX4_sheet_81 rfl rfl (by omega) ?_
            refine g_iconst dX4_sheet_82 ic_0 ?_
            refine g_istore dX4_sheet_83 (by decide) rfl ?_
            rw [f_sheet, if_pos hP, if_pos c37, if_pos c50, tj]
            simp only [oV, oG]
            first
            | (rw [if_pos c73]; exact g_h (by rw [up_setg, up_setg, setg_s, setg_2, fil_0 _ (by omega)]) (l_X4_sheet hj 0 (by decide)))
            | (rw [if_neg c73]; exact g_h (by rw [up_setg, up_setg, setg_s, setg_2, fil_0 _ (by omega)]) (l_X4_sheet hj 0 (by decide)))
          · refine g_iconst dX4_sheet_76 ic_0 ?_
            refine g_goto 81 dX4_sheet_77 (by decide) ?_
            refine g_iast j dX4_sheet_81 rfl rfl (by omega) ?_
            refine g_iconst dX4_sheet_82 ic_0 ?_
            refine g_istore dX4_sheet_83 (by decide) rfl ?_
            rw [f_sheet, if_pos hP, if_pos c37, if_pos c50, tj]
            simp only [oV, oG]
            first
            | (rw [if_pos c73]; exact g_h (by rw [up_setg, up_setg, setg_s, setg_2, fil_0 _ (by omega)]) (l_X4_sheet hj 0 (by decide)))
            | (rw [if_neg c73]; exact g_h (by rw [up_setg, up_setg, setg_s, setg_2, fil_0 _ (by omega)]) (l_X4_sheet hj 0 (by decide)))
        · refine g_aload_n dX4_sheet_53 rfl ?_
          refine g_ldc dX4_sheet_54 lc_X4_34 ?_
          refine g_callV1i (c_X4_finds 0 (by decide) (by decide)) mi_X4_finds mv_X4_finds ml_X4_36 dX4_sheet_56 rfl rfl (by decide) (Nat.le_of_ble_eq_true rfl) (Nat.le_of_ble_eq_true rfl) ?_
          exact g_ireturn dX4_sheet_59 (by rw [f_sheet, if_pos hP, if_pos c37, if_neg c50]; rfl) (by rw [f_sheet, if_pos hP, if_pos c37, if_neg c50]; rfl)
      · refine g_aload_n dX4_sheet_40 rfl ?_
        refine g_ldc dX4_sheet_41 lc_X4_244 ?_
        refine g_callV1i (c_X4_finds 6 (by decide) (by decide)) mi_X4_finds mv_X4_finds ml_X4_36 dX4_sheet_43 rfl rfl (by decide) (Nat.le_of_ble_eq_true rfl) (Nat.le_of_ble_eq_true rfl) ?_
        exact g_ireturn dX4_sheet_46 (by rw [f_sheet, if_pos hP, if_neg c37]; rfl) (by rw [f_sheet, if_pos hP, if_neg c37]; rfl)
    · refine g_iload_n dX4_sheet_11 rfl ?_
      refine g_bipush dX4_sheet_12 bp_8 ?_
      refine g_icmp_eq 36 dX4_sheet_14 (by decide) (fun c14 => ?_) (fun c14 => ?_)
      · have hP : (inB s 0 3 && (decide (b = 0) || decide (b = 8) || decide (b = 16) || decide (b = 32))) = true := by simp_all [bI_0]
        refine g_iload_n dX4_sheet_36 rfl ?_
        refine g_if_ge 47 dX4_sheet_37 (by decide) (fun c37 => ?_) (fun c37 => ?_)
        · refine g_iload_n dX4_sheet_47 rfl ?_
          refine g_bipush dX4_sheet_48 bp_40 ?_
          refine g_icmp_le 60 dX4_sheet_50 (by decide) (fun c50 => ?_) (fun c50 => ?_)
          · obtain ⟨j, hj, tj, rfl⟩ := inB_of 3 (by decide) (nb0 c4)
            refine g_aload_n dX4_sheet_60 rfl ?_
            refine g_getR dX4_sheet_61 fl_X4_22 rfl rfl ?_
            refine g_iload_n dX4_sheet_64 rfl ?_
            refine g_iload_n dX4_sheet_65 rfl ?_
            refine g_iast0 j dX4_sheet_66 rfl rfl (by omega) ?_
            refine g_aload_n dX4_sheet_67 rfl ?_
            refine g_getR dX4_sheet_68 fl_X4_25 rfl rfl ?_
            refine g_iload_n dX4_sheet_71 rfl ?_
            refine g_iload_n dX4_sheet_72 rfl ?_
            refine g_if_ne 80 dX4_sheet_73 (by decide) (fun c73 => ?_) (fun c73 => ?_)
            · refine g_iload_n dX4_sheet_80 rfl ?_
              refine g_iast j dX4_sheet_81 rfl rfl (by omega) ?_
              refine g_iconst dX4_sheet_82 ic_0 ?_
              refine g_istore dX4_sheet_83 (by decide) rfl ?_
              rw [f_sheet, if_pos hP, if_pos c37, if_pos c50, tj]
              simp only [oV, oG]
              first
              | (rw [if_pos c73]; exact g_h (by rw [up_setg, up_setg, setg_s, setg_2, fil_0 _ (by omega)]) (l_X4_sheet hj 0 (by decide)))
              | (rw [if_neg c73]; exact g_h (by rw [up_setg, up_setg, setg_s, setg_2, fil_0 _ (by omega)]) (l_X4_sheet hj 0 (by decide)))
            · refine g_iconst dX4_sheet_76 ic_0 ?_
              refine g_goto 81 dX4_sheet_77 (by decide) ?_
              refine g_iast j dX4_sheet_81 rfl rfl (by omega) ?_
              refine g_iconst dX4_sheet_82 ic_0 ?_
              refine g_istore dX4_sheet_83 (by decide) rfl ?_
              rw [f_sheet, if_pos hP, if_pos c37, if_pos c50, tj]
              simp only [oV, oG]
              first
              | (rw [if_pos c73]; exact g_h (by rw [up_setg, up_setg, setg_s, setg_2, fil_0 _ (by omega)]) (l_X4_sheet hj 0 (by decide)))
              | (rw [if_neg c73]; exact g_h (by rw [up_setg, up_setg, setg_s, setg_2, fil_0 _ (by omega)]) (l_X4_sheet hj 0 (by decide)))
          · refine g_aload_n dX4_sheet_53 rfl ?_
            refine g_ldc dX4_sheet_54 lc_X4_34 ?_
            refine g_callV1i (c_X4_finds 0 (by decide) (by decide)) mi_X4_finds mv_X4_finds ml_X4_36 dX4_sheet_56 rfl rfl (by decide) (Nat.le_of_ble_eq_true rfl) (Nat.le_of_ble_eq_true rfl) ?_
            exact g_ireturn dX4_sheet_59 (by rw [f_sheet, if_pos hP, if_pos c37, if_neg c50]; rfl) (by rw [f_sheet, if_pos hP, if_pos c37, if_neg c50]; rfl)
        · refine g_aload_n dX4_sheet_40 rfl ?_
          refine g_ldc dX4_sheet_41 lc_X4_244 ?_
          refine g_callV1i (c_X4_finds 6 (by decide) (by decide)) mi_X4_finds mv_X4_finds ml_X4_36 dX4_sheet_43 rfl rfl (by decide) (Nat.le_of_ble_eq_true rfl) (Nat.le_of_ble_eq_true rfl) ?_
          exact g_ireturn dX4_sheet_46 (by rw [f_sheet, if_pos hP, if_neg c37]; rfl) (by rw [f_sheet, if_pos hP, if_neg c37]; rfl)
      · refine g_iload_n dX4_sheet_17 rfl ?_
        refine g_bipush dX4_sheet_18 bp_16 ?_
        refine g_icmp_eq 36 dX4_sheet_20 (by decide) (fun c20 => ?_) (fun c20 => ?_)
        · have hP : (inB s 0 3 && (decide (b = 0) || decide (b = 8) || decide (b = 16) || decide (b = 32))) = true := by simp_all [bI_0]
          refine g_iload_n dX4_sheet_36 rfl ?_
          refine g_if_ge 47 dX4_sheet_37 (by decide) (fun c37 => ?_) (fun c37 => ?_)
          · refine g_iload_n dX4_sheet_47 rfl ?_
            refine g_bipush dX4_sheet_48 bp_40 ?_
            refine g_icmp_le 60 dX4_sheet_50 (by decide) (fun c50 => ?_) (fun c50 => ?_)
            · obtain ⟨j, hj, tj, rfl⟩ := inB_of 3 (by decide) (nb0 c4)
              refine g_aload_n dX4_sheet_60 rfl ?_
              refine g_getR dX4_sheet_61 fl_X4_22 rfl rfl ?_
              refine g_iload_n dX4_sheet_64 rfl ?_
              refine g_iload_n dX4_sheet_65 rfl ?_
              refine g_iast0 j dX4_sheet_66 rfl rfl (by omega) ?_
              refine g_aload_n dX4_sheet_67 rfl ?_
              refine g_getR dX4_sheet_68 fl_X4_25 rfl rfl ?_
              refine g_iload_n dX4_sheet_71 rfl ?_
              refine g_iload_n dX4_sheet_72 rfl ?_
              refine g_if_ne 80 dX4_sheet_73 (by decide) (fun c73 => ?_) (fun c73 => ?_)
              · refine g_iload_n dX4_sheet_80 rfl ?_
                refine g_iast j dX4_sheet_81 rfl rfl (by omega) ?_
                refine g_iconst dX4_sheet_82 ic_0 ?_
                refine g_istore dX4_sheet_83 (by decide) rfl ?_
                rw [f_sheet, if_pos hP, if_pos c37, if_pos c50, tj]
                simp only [oV, oG]
                first
                | (rw [if_pos c73]; exact g_h (by rw [up_setg, up_setg, setg_s, setg_2, fil_0 _ (by omega)]) (l_X4_sheet hj 0 (by decide)))
                | (rw [if_neg c73]; exact g_h (by rw [up_setg, up_setg, setg_s, setg_2, fil_0 _ (by omega)]) (l_X4_sheet hj 0 (by decide)))
              · refine g_iconst dX4_sheet_76 ic_0 ?_
                refine g_goto 81 dX4_sheet_77 (by decide) ?_
                refine g_iast j dX4_sheet_81 rfl rfl (by omega) ?_
                refine g_iconst dX4_sheet_82 ic_0 ?_
                refine g_istore dX4_sheet_83 (by decide) rfl ?_
                rw [f_sheet, if_pos hP, if_pos c37, if_pos c50, tj]
                simp only [oV, oG]
                first
                | (rw [if_pos c73]; exact g_h (by rw [up_setg, up_setg, setg_s, setg_2, fil_0 _ (by omega)]) (l_X4_sheet hj 0 (by decide)))
                | (rw [if_neg c73]; exact g_h (by rw [up_setg, up_setg, setg_s, setg_2, fil_0 _ (by omega)]) (l_X4_sheet hj 0 (by decide)))
            · refine g_aload_n dX4_sheet_53 rfl ?_
              refine g_ldc dX4_sheet_54 lc_X4_34 ?_
              refine g_callV1i (c_X4_finds 0 (by decide) (by decide)) mi_X4_finds mv_X4_finds ml_X4_36 dX4_sheet_56 rfl rfl (by decide) (Nat.le_of_ble_eq_true rfl) (Nat.le_of_ble_eq_true rfl) ?_
              exact g_ireturn dX4_sheet_59 (by rw [f_sheet, if_pos hP, if_pos c37, if_neg c50]; rfl) (by rw [f_sheet, if_pos hP, if_pos c37, if_neg c50]; rfl)
          · refine g_aload_n dX4_sheet_40 rfl ?_
            refine g_ldc dX4_sheet_41 lc_X4_244 ?_
            refine g_callV1i (c_X4_finds 6 (by decide) (by decide)) mi_X4_finds mv_X4_finds ml_X4_36 dX4_sheet_43 rfl rfl (by decide) (Nat.le_of_ble_eq_true rfl) (Nat.le_of_ble_eq_true rfl) ?_
            exact g_ireturn dX4_sheet_46 (by rw [f_sheet, if_pos hP, if_neg c37]; rfl) (by rw [f_sheet, if_pos hP, if_neg c37]; rfl)
        · refine g_iload_n dX4_sheet_23 rfl ?_
          refine g_bipush dX4_sheet_24 bp_32 ?_
          refine g_icmp_eq 36 dX4_sheet_26 (by decide) (fun c26 => ?_) (fun c26 => ?_)
          · have hP : (inB s 0 3 && (decide (b = 0) || decide (b = 8) || decide (b = 16) || decide (b = 32))) = true := by simp_all [bI_0]
            refine g_iload_n dX4_sheet_36 rfl ?_
            refine g_if_ge 47 dX4_sheet_37 (by decide) (fun c37 => ?_) (fun c37 => ?_)
            · refine g_iload_n dX4_sheet_47 rfl ?_
              refine g_bipush dX4_sheet_48 bp_40 ?_
              refine g_icmp_le 60 dX4_sheet_50 (by decide) (fun c50 => ?_) (fun c50 => ?_)
              · obtain ⟨j, hj, tj, rfl⟩ := inB_of 3 (by decide) (nb0 c4)
                refine g_aload_n dX4_sheet_60 rfl ?_
                refine g_getR dX4_sheet_61 fl_X4_22 rfl rfl ?_
                refine g_iload_n dX4_sheet_64 rfl ?_
                refine g_iload_n dX4_sheet_65 rfl ?_
                refine g_iast0 j dX4_sheet_66 rfl rfl (by omega) ?_
                refine g_aload_n dX4_sheet_67 rfl ?_
                refine g_getR dX4_sheet_68 fl_X4_25 rfl rfl ?_
                refine g_iload_n dX4_sheet_71 rfl ?_
                refine g_iload_n dX4_sheet_72 rfl ?_
                refine g_if_ne 80 dX4_sheet_73 (by decide) (fun c73 => ?_) (fun c73 => ?_)
                · refine g_iload_n dX4_sheet_80 rfl ?_
                  refine g_iast j dX4_sheet_81 rfl rfl (by omega) ?_
                  refine g_iconst dX4_sheet_82 ic_0 ?_
                  refine g_istore dX4_sheet_83 (by decide) rfl ?_
                  rw [f_sheet, if_pos hP, if_pos c37, if_pos c50, tj]
                  simp only [oV, oG]
                  first
                  | (rw [if_pos c73]; exact g_h (by rw [up_setg, up_setg, setg_s, setg_2, fil_0 _ (by omega)]) (l_X4_sheet hj 0 (by decide)))
                  | (rw [if_neg c73]; exact g_h (by rw [up_setg, up_setg, setg_s, setg_2, fil_0 _ (by omega)]) (l_X4_sheet hj 0 (by decide)))
                · refine g_iconst dX4_sheet_76 ic_0 ?_
                  refine g_goto 81 dX4_sheet_77 (by decide) ?_
                  refine g_iast j dX4_sheet_81 rfl rfl (by omega) ?_
                  refine g_iconst dX4_sheet_82 ic_0 ?_
                  refine g_istore dX4_sheet_83 (by decide) rfl ?_
                  rw [f_sheet, if_pos hP, if_pos c37, if_pos c50, tj]
                  simp only [oV, oG]
                  first
                  | (rw [if_pos c73]; exact g_h (by rw [up_setg, up_setg, setg_s, setg_2, fil_0 _ (by omega)]) (l_X4_sheet hj 0 (by decide)))
                  | (rw [if_neg c73]; exact g_h (by rw [up_setg, up_setg, setg_s, setg_2, fil_0 _ (by omega)]) (l_X4_sheet hj 0 (by decide)))
              · refine g_aload_n dX4_sheet_53 rfl ?_
                refine g_ldc dX4_sheet_54 lc_X4_34 ?_
                refine g_callV1i (c_X4_finds 0 (by decide) (by decide)) mi_X4_finds mv_X4_finds ml_X4_36 dX4_sheet_56 rfl rfl (by decide) (Nat.le_of_ble_eq_true rfl) (Nat.le_of_ble_eq_true rfl) ?_
                exact g_ireturn dX4_sheet_59 (by rw [f_sheet, if_pos hP, if_pos c37, if_neg c50]; rfl) (by rw [f_sheet, if_pos hP, if_pos c37, if_neg c50]; rfl)
            · refine g_aload_n dX4_sheet_40 rfl ?_
              refine g_ldc dX4_sheet_41 lc_X4_244 ?_
              refine g_callV1i (c_X4_finds 6 (by decide) (by decide)) mi_X4_finds mv_X4_finds ml_X4_36 dX4_sheet_43 rfl rfl (by decide) (Nat.le_of_ble_eq_true rfl) (Nat.le_of_ble_eq_true rfl) ?_
              exact g_ireturn dX4_sheet_46 (by rw [f_sheet, if_pos hP, if_neg c37]; rfl) (by rw [f_sheet, if_pos hP, if_neg c37]; rfl)
          · refine g_aload_n dX4_sheet_29 rfl ?_
            refine g_ldc dX4_sheet_30 lc_X4_34 ?_
            refine g_callV1i (c_X4_finds 0 (by decide) (by decide)) mi_X4_finds mv_X4_finds ml_X4_36 dX4_sheet_32 rfl rfl (by decide) (Nat.le_of_ble_eq_true rfl) (Nat.le_of_ble_eq_true rfl) ?_
            exact g_ireturn dX4_sheet_35 (by simp_all [f_sheet, oV, fvl_0, fvl_1, fvl_2, fvl_3, fvl_4, fvl_5, fvl_6, bI_0]) (by simp_all [f_sheet, oG, bI_0, setg_id])

set_option maxRecDepth 100000 in
set_option maxHeartbeats 4000000 in
theorem c_X4_write {X : Sc} {h : Hp} (hI : In (h 11)) (hS : InS (h 16)) {s i v : Int32} : Ct X yX4_write cX4_write 5 (some .int) 3 [.ref 28, .int s, .int i, .int v] h (some (.int (oV (f_write (h 16) s i v)))) (oG 16 15 h (f_write (h 16) s i v)) := by
  refine ⟨rfl, ?_⟩
  refine g_aload_n dX4_write_0 rfl ?_
  refine g_iload_n dX4_write_1 rfl ?_
  refine g_callV1i (c_X4_notThere) mi_X4_notThere mv_X4_notThere ml_X4_174 dX4_write_2 rfl rfl (by decide) (Nat.le_of_ble_eq_true rfl) (Nat.le_of_ble_eq_true rfl) ?_
  refine g_istore dX4_write_5 (by decide) rfl ?_
  refine g_iload dX4_write_7 rfl ?_
  refine g_if_ne 33 dX4_write_9 (by decide) (fun c9 => ?_) (fun c9 => ?_)
  · refine g_iload dX4_write_33 rfl ?_
    refine g_istore dX4_write_35 (by decide) rfl ?_
    refine g_iload dX4_write_37 rfl ?_
    refine g_if_eq 49 dX4_write_39 (by decide) (fun c39 => ?_) (fun c39 => ?_)
    · first
      | exact absurd c39 c9
      | exact absurd c39 (by decide)
      | (have hL := hS j (by omega)
         have hi2 : inB i 0 (nI (nL2 (h 16) j) - 1) = true := by rw [← hL.2.2]; exact nb0 c25
         have hi3 : ∃ x, x < nL2 (h 16) j ∧ tn (nI x) = x ∧ i = nI x := by
           unfold inB at hi2
           simp only [Bool.and_eq_true, Bool.not_eq_true', decide_eq_false_iff_not] at hi2
           obtain ⟨x, hx, rfl⟩ := nI_of hi2.1
           refine ⟨x, ?_, nI_clamp hx, rfl⟩
           have q := mt (sub1_lt (by omega) _).mpr hi2.2
           exact Nat.lt_of_not_le (fun z => q (nI_le z hx))
         obtain ⟨x, lx, tx, rfl⟩ := hi3
         refine g_aload_n dX4_write_49 rfl ?_
         refine g_getR dX4_write_50 fl_X4_28 rfl rfl ?_
         refine g_bipush dX4_write_53 bp_40 ?_
         refine g_iload_n dX4_write_55 rfl ?_
         refine g_imul dX4_write_56 ?_
         refine g_iload_n dX4_write_57 rfl ?_
         refine g_iadd dX4_write_58 ?_
         refine g_aload_n dX4_write_59 rfl ?_
         refine g_getR dX4_write_60 fl_X4_22 rfl rfl ?_
         refine g_iload_n dX4_write_63 rfl ?_
         refine g_iald0 j dX4_write_64 rfl rfl (by omega) ?_
         refine g_bipush dX4_write_65 bp_8 ?_
         refine g_icmp_ne 75 dX4_write_67 (by decide) (fun c67 => ?_) (fun c67 => ?_)
         · refine g_aload_n dX4_write_75 rfl ?_
           refine g_getR dX4_write_76 fl_X4_22 rfl rfl ?_
           refine g_iload_n dX4_write_79 rfl ?_
           refine g_iald0 j dX4_write_80 rfl rfl (by omega) ?_
           refine g_bipush dX4_write_81 bp_16 ?_
           refine g_icmp_ne 91 dX4_write_83 (by decide) (fun c83 => ?_) (fun c83 => ?_)
           · refine g_iload_n dX4_write_91 rfl ?_
             refine g_iast (40 * j + x) dX4_write_92 rfl (jx40 _ _) (by omega) ?_
             refine g_iconst dX4_write_93 ic_1 ?_
             exact g_ireturn dX4_write_94 (by rw [f_write, onS_ok tz, if_pos (by rw [tj]; exact nb0 c25)]; rfl) (by rw [f_write, onS_ok tz, if_pos (by rw [tj]; exact nb0 c25), tj, tx, up_setg, show 8 + (40 * j + x) = 8 + 40 * j + x by omega]; simp_all [oG, putR, narB, sB])
           · refine g_iload_n dX4_write_86 rfl ?_
             refine g_i2s dX4_write_87 ?_
             refine g_goto 92 dX4_write_88 (by decide) ?_
             refine g_iast (40 * j + x) dX4_write_92 rfl (jx40 _ _) (by omega) ?_
             refine g_iconst dX4_write_93 ic_1 ?_
             exact g_ireturn dX4_write_94 (by rw [f_write, onS_ok tz, if_pos (by rw [tj]; exact nb0 c25)]; rfl) (by rw [f_write, onS_ok tz, if_pos (by rw [tj]; exact nb0 c25), tj, tx, up_setg, show 8 + (40 * j + x) = 8 + 40 * j + x by omega]; simp_all [oG, putR, narB, sB])
         · refine g_iload_n dX4_write_70 rfl ?_
           refine g_i2b dX4_write_71 ?_
           refine g_goto 92 dX4_write_72 (by decide) ?_
           refine g_iast (40 * j + x) dX4_write_92 rfl (jx40 _ _) (by omega) ?_
           refine g_iconst dX4_write_93 ic_1 ?_
           exact g_ireturn dX4_write_94 (by rw [f_write, onS_ok tz, if_pos (by rw [tj]; exact nb0 c25)]; rfl) (by rw [f_write, onS_ok tz, if_pos (by rw [tj]; exact nb0 c25), tj, tx, up_setg, show 8 + (40 * j + x) = 8 + 40 * j + x by omega]; simp_all [oG, putR, narB, sB]))
    · first
      | exact absurd c9 c39
      | (refine g_aload_n dX4_write_42 rfl ?_
         refine g_iload dX4_write_43 rfl ?_
         first
         | refine g_callV1i (c_X4_finds 0 (by decide) (by decide)) mi_X4_finds mv_X4_finds ml_X4_36 dX4_write_45 rfl rfl (by decide) (Nat.le_of_ble_eq_true rfl) (Nat.le_of_ble_eq_true rfl) ?_
         | refine g_callV1i (c_X4_finds (if inB s 0 3 = true then 5 else 0) (by split <;> decide) (trb_k c9)) mi_X4_finds mv_X4_finds ml_X4_36 dX4_write_45 rfl rfl (by decide) (Nat.le_of_ble_eq_true rfl) (Nat.le_of_ble_eq_true rfl) ?_
         exact g_ireturn dX4_write_48 (by first | (rw [f_write, ← (trb_f c9 _).2]; done) | (rw [f_write, onS_ok tz, if_neg (by rw [tj, sL, b0 c25]; decide)]; rfl)) (by first | (rw [f_write, (trb_f c9 _).1]; rfl) | (rw [f_write, onS_ok tz, if_neg (by rw [tj, sL, b0 c25]; decide)]; rfl)))
  · have tz := trb_0 c9
    obtain ⟨j, hj, tj, rfl⟩ := inB_of 3 (by decide) tz.1
    refine g_iload_n dX4_write_12 rfl ?_
    refine g_iconst dX4_write_13 ic_0 ?_
    refine g_aload_n dX4_write_14 rfl ?_
    refine g_getR dX4_write_15 fl_X4_25 rfl rfl ?_
    refine g_iload_n dX4_write_18 rfl ?_
    refine g_iald j dX4_write_19 rfl rfl (by omega) ?_
    refine g_iconst dX4_write_20 ic_1 ?_
    refine g_isub dX4_write_21 ?_
    refine g_callS3i (c_X4_in) mi_X4_in ms_X4_in ml_X4_40 dX4_write_22 (by decide) (Nat.le_of_ble_eq_true rfl) (Nat.le_of_ble_eq_true rfl) ?_
    refine g_if_ne 33 dX4_write_25 (by decide) (fun c25 => ?_) (fun c25 => ?_)
    · refine g_iload dX4_write_33 rfl ?_
      refine g_istore dX4_write_35 (by decide) rfl ?_
      refine g_iload dX4_write_37 rfl ?_
      refine g_if_eq 49 dX4_write_39 (by decide) (fun c39 => ?_) (fun c39 => ?_)
      · first
        | exact absurd c39 c9
        | exact absurd c39 (by decide)
        | (have hL := hS j (by omega)
           have hi2 : inB i 0 (nI (nL2 (h 16) j) - 1) = true := by rw [← hL.2.2]; exact nb0 c25
           have hi3 : ∃ x, x < nL2 (h 16) j ∧ tn (nI x) = x ∧ i = nI x := by
             unfold inB at hi2
             simp only [Bool.and_eq_true, Bool.not_eq_true', decide_eq_false_iff_not] at hi2
             obtain ⟨x, hx, rfl⟩ := nI_of hi2.1
             refine ⟨x, ?_, nI_clamp hx, rfl⟩
             have q := mt (sub1_lt (by omega) _).mpr hi2.2
             exact Nat.lt_of_not_le (fun z => q (nI_le z hx))
           obtain ⟨x, lx, tx, rfl⟩ := hi3
           refine g_aload_n dX4_write_49 rfl ?_
           refine g_getR dX4_write_50 fl_X4_28 rfl rfl ?_
           refine g_bipush dX4_write_53 bp_40 ?_
           refine g_iload_n dX4_write_55 rfl ?_
           refine g_imul dX4_write_56 ?_
           refine g_iload_n dX4_write_57 rfl ?_
           refine g_iadd dX4_write_58 ?_
           refine g_aload_n dX4_write_59 rfl ?_
           refine g_getR dX4_write_60 fl_X4_22 rfl rfl ?_
           refine g_iload_n dX4_write_63 rfl ?_
           refine g_iald0 j dX4_write_64 rfl rfl (by omega) ?_
           refine g_bipush dX4_write_65 bp_8 ?_
           refine g_icmp_ne 75 dX4_write_67 (by decide) (fun c67 => ?_) (fun c67 => ?_)
           · refine g_aload_n dX4_write_75 rfl ?_
             refine g_getR dX4_write_76 fl_X4_22 rfl rfl ?_
             refine g_iload_n dX4_write_79 rfl ?_
             refine g_iald0 j dX4_write_80 rfl rfl (by omega) ?_
             refine g_bipush dX4_write_81 bp_16 ?_
             refine g_icmp_ne 91 dX4_write_83 (by decide) (fun c83 => ?_) (fun c83 => ?_)
             · refine g_iload_n dX4_write_91 rfl ?_
               refine g_iast (40 * j + x) dX4_write_92 rfl (jx40 _ _) (by omega) ?_
               refine g_iconst dX4_write_93 ic_1 ?_
               exact g_ireturn dX4_write_94 (by rw [f_write, onS_ok tz, if_pos (by rw [tj]; exact nb0 c25)]; rfl) (by rw [f_write, onS_ok tz, if_pos (by rw [tj]; exact nb0 c25), tj, tx, up_setg, show 8 + (40 * j + x) = 8 + 40 * j + x by omega]; simp_all [oG, putR, narB, sB])
             · refine g_iload_n dX4_write_86 rfl ?_
               refine g_i2s dX4_write_87 ?_
               refine g_goto 92 dX4_write_88 (by decide) ?_
               refine g_iast (40 * j + x) dX4_write_92 rfl (jx40 _ _) (by omega) ?_
               refine g_iconst dX4_write_93 ic_1 ?_
               exact g_ireturn dX4_write_94 (by rw [f_write, onS_ok tz, if_pos (by rw [tj]; exact nb0 c25)]; rfl) (by rw [f_write, onS_ok tz, if_pos (by rw [tj]; exact nb0 c25), tj, tx, up_setg, show 8 + (40 * j + x) = 8 + 40 * j + x by omega]; simp_all [oG, putR, narB, sB])
           · refine g_iload_n dX4_write_70 rfl ?_
             refine g_i2b dX4_write_71 ?_
             refine g_goto 92 dX4_write_72 (by decide) ?_
             refine g_iast (40 * j + x) dX4_write_92 rfl (jx40 _ _) (by omega) ?_
             refine g_iconst dX4_write_93 ic_1 ?_
             exact g_ireturn dX4_write_94 (by rw [f_write, onS_ok tz, if_pos (by rw [tj]; exact nb0 c25)]; rfl) (by rw [f_write, onS_ok tz, if_pos (by rw [tj]; exact nb0 c25), tj, tx, up_setg, show 8 + (40 * j + x) = 8 + 40 * j + x by omega]; simp_all [oG, putR, narB, sB]))
      · first
        | exact absurd c9 c39
        | (refine g_aload_n dX4_write_42 rfl ?_
           refine g_iload dX4_write_43 rfl ?_
           first
           | refine g_callV1i (c_X4_finds 0 (by decide) (by decide)) mi_X4_finds mv_X4_finds ml_X4_36 dX4_write_45 rfl rfl (by decide) (Nat.le_of_ble_eq_true rfl) (Nat.le_of_ble_eq_true rfl) ?_
           | refine g_callV1i (c_X4_finds (if inB s 0 3 = true then 5 else 0) (by split <;> decide) (trb_k c9)) mi_X4_finds mv_X4_finds ml_X4_36 dX4_write_45 rfl rfl (by decide) (Nat.le_of_ble_eq_true rfl) (Nat.le_of_ble_eq_true rfl) ?_
           exact g_ireturn dX4_write_48 (by first | (rw [f_write, ← (trb_f c9 _).2]; done) | (rw [f_write, onS_ok tz, if_neg (by rw [tj, sL, b0 c25]; decide)]; rfl)) (by first | (rw [f_write, (trb_f c9 _).1]; rfl) | (rw [f_write, onS_ok tz, if_neg (by rw [tj, sL, b0 c25]; decide)]; rfl)))
    · refine g_ldc dX4_write_28 lc_X4_34 ?_
      refine g_goto 35 dX4_write_30 (by decide) ?_
      refine g_istore dX4_write_35 (by decide) rfl ?_
      refine g_iload dX4_write_37 rfl ?_
      refine g_if_eq 49 dX4_write_39 (by decide) (fun c39 => ?_) (fun c39 => ?_)
      · first
        | exact absurd c39 c9
        | exact absurd c39 (by decide)
        | (have hL := hS j (by omega)
           have hi2 : inB i 0 (nI (nL2 (h 16) j) - 1) = true := by rw [← hL.2.2]; exact nb0 c25
           have hi3 : ∃ x, x < nL2 (h 16) j ∧ tn (nI x) = x ∧ i = nI x := by
             unfold inB at hi2
             simp only [Bool.and_eq_true, Bool.not_eq_true', decide_eq_false_iff_not] at hi2
             obtain ⟨x, hx, rfl⟩ := nI_of hi2.1
             refine ⟨x, ?_, nI_clamp hx, rfl⟩
             have q := mt (sub1_lt (by omega) _).mpr hi2.2
             exact Nat.lt_of_not_le (fun z => q (nI_le z hx))
           obtain ⟨x, lx, tx, rfl⟩ := hi3
           refine g_aload_n dX4_write_49 rfl ?_
           refine g_getR dX4_write_50 fl_X4_28 rfl rfl ?_
           refine g_bipush dX4_write_53 bp_40 ?_
           refine g_iload_n dX4_write_55 rfl ?_
           refine g_imul dX4_write_56 ?_
           refine g_iload_n dX4_write_57 rfl ?_
           refine g_iadd dX4_write_58 ?_
           refine g_aload_n dX4_write_59 rfl ?_
           refine g_getR dX4_write_60 fl_X4_22 rfl rfl ?_
           refine g_iload_n dX4_write_63 rfl ?_
           refine g_iald0 j dX4_write_64 rfl rfl (by omega) ?_
           refine g_bipush dX4_write_65 bp_8 ?_
           refine g_icmp_ne 75 dX4_write_67 (by decide) (fun c67 => ?_) (fun c67 => ?_)
           · refine g_aload_n dX4_write_75 rfl ?_
             refine g_getR dX4_write_76 fl_X4_22 rfl rfl ?_
             refine g_iload_n dX4_write_79 rfl ?_
             refine g_iald0 j dX4_write_80 rfl rfl (by omega) ?_
             refine g_bipush dX4_write_81 bp_16 ?_
             refine g_icmp_ne 91 dX4_write_83 (by decide) (fun c83 => ?_) (fun c83 => ?_)
             · refine g_iload_n dX4_write_91 rfl ?_
               refine g_iast (40 * j + x) dX4_write_92 rfl (jx40 _ _) (by omega) ?_
               refine g_iconst dX4_write_93 ic_1 ?_
               exact g_ireturn dX4_write_94 (by rw [f_write, onS_ok tz, if_pos (by rw [tj]; exact nb0 c25)]; rfl) (by rw [f_write, onS_ok tz, if_pos (by rw [tj]; exact nb0 c25), tj, tx, up_setg, show 8 + (40 * j + x) = 8 + 40 * j + x by omega]; simp_all [oG, putR, narB, sB])
             · refine g_iload_n dX4_write_86 rfl ?_
               refine g_i2s dX4_write_87 ?_
               refine g_goto 92 dX4_write_88 (by decide) ?_
               refine g_iast (40 * j + x) dX4_write_92 rfl (jx40 _ _) (by omega) ?_
               refine g_iconst dX4_write_93 ic_1 ?_
               exact g_ireturn dX4_write_94 (by rw [f_write, onS_ok tz, if_pos (by rw [tj]; exact nb0 c25)]; rfl) (by rw [f_write, onS_ok tz, if_pos (by rw [tj]; exact nb0 c25), tj, tx, up_setg, show 8 + (40 * j + x) = 8 + 40 * j + x by omega]; simp_all [oG, putR, narB, sB])
           · refine g_iload_n dX4_write_70 rfl ?_
             refine g_i2b dX4_write_71 ?_
             refine g_goto 92 dX4_write_72 (by decide) ?_
             refine g_iast (40 * j + x) dX4_write_92 rfl (jx40 _ _) (by omega) ?_
             refine g_iconst dX4_write_93 ic_1 ?_
             exact g_ireturn dX4_write_94 (by rw [f_write, onS_ok tz, if_pos (by rw [tj]; exact nb0 c25)]; rfl) (by rw [f_write, onS_ok tz, if_pos (by rw [tj]; exact nb0 c25), tj, tx, up_setg, show 8 + (40 * j + x) = 8 + 40 * j + x by omega]; simp_all [oG, putR, narB, sB]))
      · first
        | exact absurd c9 c39
        | (refine g_aload_n dX4_write_42 rfl ?_
           refine g_iload dX4_write_43 rfl ?_
           first
           | refine g_callV1i (c_X4_finds 0 (by decide) (by decide)) mi_X4_finds mv_X4_finds ml_X4_36 dX4_write_45 rfl rfl (by decide) (Nat.le_of_ble_eq_true rfl) (Nat.le_of_ble_eq_true rfl) ?_
           | refine g_callV1i (c_X4_finds (if inB s 0 3 = true then 5 else 0) (by split <;> decide) (trb_k c9)) mi_X4_finds mv_X4_finds ml_X4_36 dX4_write_45 rfl rfl (by decide) (Nat.le_of_ble_eq_true rfl) (Nat.le_of_ble_eq_true rfl) ?_
           exact g_ireturn dX4_write_48 (by first | (rw [f_write, ← (trb_f c9 _).2]; done) | (rw [f_write, onS_ok tz, if_neg (by rw [tj, sL, b0 c25]; decide)]; rfl)) (by first | (rw [f_write, (trb_f c9 _).1]; rfl) | (rw [f_write, onS_ok tz, if_neg (by rw [tj, sL, b0 c25]; decide)]; rfl)))

