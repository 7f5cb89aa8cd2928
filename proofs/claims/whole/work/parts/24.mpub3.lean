/-! THE REFERENCE'S CALLS, third part: sheets, spots, images -/
theorem jx40 (j k : Nat) : 40 * nI j + nI k = nI (40 * j + k) := by rw [show (40 : Int32) = nI 40 from rfl, pk_mul, nI_add]
set_option maxRecDepth 100000 in
set_option maxHeartbeats 4000000 in
theorem c_X4_notThere {X : Sc} {h : Hp} {s : Int32} : Ct X yX4_notThere cX4_notThere 2 (some .int) 2 [.ref 28, .int s] h (some (.int (trb (h 16) s))) h := by
  refine ⟨rfl, ?_⟩
  refine g_iload_n dX4_notThere_0 rfl ?_
  refine g_callS1i (c_X4_isSheet) mi_X4_isSheet ms_X4_isSheet ml_X4_170 dX4_notThere_1 (by decide) (Nat.le_of_ble_eq_true rfl) (Nat.le_of_ble_eq_true rfl) ?_
  refine g_if_ne 12 dX4_notThere_4 (by decide) (fun c4 => ?_) (fun c4 => ?_)
  · obtain ⟨j, hj, tj, rfl⟩ := inB_of 3 (by decide) (nb0 c4)
    refine g_aload_n dX4_notThere_12 rfl ?_
    refine g_getR dX4_notThere_13 fl_X4_22 rfl rfl ?_
    refine g_iload_n dX4_notThere_16 rfl ?_
    refine g_iald0 j dX4_notThere_17 rfl rfl (by omega) ?_
    refine g_if_ne 26 dX4_notThere_18 (by decide) (fun c18 => ?_) (fun c18 => ?_)
    · refine g_iconst dX4_notThere_26 ic_0 ?_
      exact g_ireturn dX4_notThere_27 (by simp_all [trb, bI_0, sB]) rfl
    · refine g_ldc dX4_notThere_21 lc_X4_173 ?_
      refine g_goto 27 dX4_notThere_23 (by decide) ?_
      exact g_ireturn dX4_notThere_27 (by simp_all [trb, bI_0, sB]) rfl
  · refine g_ldc dX4_notThere_7 lc_X4_34 ?_
    refine g_goto 27 dX4_notThere_9 (by decide) ?_
    exact g_ireturn dX4_notThere_27 (by simp_all [trb, bI_0, sB]) rfl

set_option maxRecDepth 100000 in
set_option maxHeartbeats 4000000 in
theorem l_X4_sheet {X : Sc} {h : Hp} {j : Nat} (hj : j ≤ 3) {b l z : Int32} : ∀ k, k ≤ 40 → Go X RX4 cX4_sheet 5 2 85 [.ref 28, .int (nI j), .int b, .int z, .int (nI k)] [] (setg h 16 (filR (h 16) j b l k)) (some (.int l)) (setg h 16 (filR (h 16) j b l 40)) := by
  refine loop_up (40) ?_ ?_
  · refine g_iload dX4_sheet_85 rfl ?_
    refine g_bipush dX4_sheet_87 bp_40 ?_
    refine g_icmp_ge 111 dX4_sheet_89 (by decide) (fun c89 => ?_) (fun c89 => ?_)
    · refine g_aload_n dX4_sheet_111 rfl ?_
      refine g_getR dX4_sheet_112 fl_X4_25 rfl rfl ?_
      refine g_iload_n dX4_sheet_115 rfl ?_
      refine g_iald j dX4_sheet_116 rfl rfl (by omega) ?_
      refine g_st (st2 := [.int l]) (by rw [setg_s, fil_L _ (by omega)]) ?_
      exact g_ireturn dX4_sheet_117 rfl rfl
    · exact (lp_yes ((rfl : (40 : Int32) = nI 40)) (by decide) c89).elim
  · intro k hk ih
    refine g_iload dX4_sheet_85 rfl ?_
    refine g_bipush dX4_sheet_87 bp_40 ?_
    refine g_icmp_ge 111 dX4_sheet_89 (by decide) (fun c89 => ?_) (fun c89 => ?_)
    · exact (lp_no ((rfl : (40 : Int32) = nI 40)) (by decide) hk c89).elim
    · refine g_aload_n dX4_sheet_92 rfl ?_
      refine g_getR dX4_sheet_93 fl_X4_28 rfl rfl ?_
      refine g_bipush dX4_sheet_96 bp_40 ?_
      refine g_iload_n dX4_sheet_98 rfl ?_
      refine g_imul dX4_sheet_99 ?_
      refine g_iload dX4_sheet_100 rfl ?_
      refine g_iadd dX4_sheet_102 ?_
      refine g_iconst dX4_sheet_103 ic_0 ?_
      refine g_iast (40 * j + k) dX4_sheet_104 rfl (jx40 _ _) (by omega) ?_
      refine g_iinc dX4_sheet_105 rfl (ii_n _) (by decide) rfl ?_
      refine g_goto 85 dX4_sheet_108 (by decide) ?_
      exact g_h (by rw [up_setg, setg_s, setg_2, show 8 + (40 * j + k) = 8 + 40 * j + k by omega, fil_s _ (by omega)]) ih

set_option maxRecDepth 100000 in
set_option maxHeartbeats 4000000 in
theorem c_X4_sheet {X : Sc} {h : Hp} (hI : In (h 11)) (hS : InS (h 16)) {s b n : Int32} : Ct X yX4_sheet cX4_sheet 5 (some .int) 2 [.ref 28, .int s, .int b, .int n] h (some (.int (oV (f_sheet (h 16) s b n)))) (oG 16 15 h (f_sheet (h 16) s b n)) := by
  refine ⟨rfl, ?_⟩
  refine g_iload_n dX4_sheet_0 rfl ?_
  refine g_callS1i (c_X4_isSheet) mi_X4_isSheet ms_X4_isSheet ml_X4_170 dX4_sheet_1 (by decide) (Nat.le_of_ble_eq_true rfl) (Nat.le_of_ble_eq_true rfl) ?_
  refine g_if_eq 29 dX4_sheet_4 (by decide) (fun c4 => ?_) (fun c4 => ?_)
  · refine g_aload_n dX4_sheet_29 rfl ?_
    refine g_ldc dX4_sheet_30 lc_X4_34 ?_
    refine g_callV1i (c_X4_finds 0 (by decide) (by decide)) mi_X4_finds mv_X4_finds ml_X4_36 dX4_sheet_32 rfl rfl (by decide) (Nat.le_of_ble_eq_true rfl) (Nat.le_of_ble_eq_true rfl) ?_
    exact g_ireturn dX4_sheet_35 (by simp_all [f_sheet, oV, fvl_0, fvl_1, fvl_2, fvl_3, fvl_4, fvl_5, fvl_6, bI_0]) (by simp_all [f_sheet, oG, bI_0, setg_id])
  · refine g_iload_n dX4_sheet_7 rfl ?_
    refine g_if_eq 36 dX4_sheet_8 (by decide) (fun c8 => ?_) (fun c8 => ?_)
    · have hP : (inB s 0 3 && (decide (b = 0) || decide (b = 8) || decide (b = 16) || decide (b = 32))) = true := by simp_all [bI_0]
      refine g_iload_n dX4_sheet_36 rfl ?_
      refine g_if_ge 47 dX4_sheet_37 (by decide) (fun c37 => ?_) (fun c37 => ?_)
      · refine g_iload_n dX4_sheet_47 rfl ?_
        refine g_bipush dX4_sheet_48 bp_40 ?_
        refine g_icmp_le 60 dX4_sheet_50 (by decide) (fun c50 => ?_) (fun c50 => ?_)
        · obtain ⟨j, hj, tj, rfl⟩ := inB_of 3 (by decide) (nb0 c4)
          refine g_aload_n dX4_sheet_60 rfl ?_
          refine g_getR dX4_sheet_61 fl_X4_22 rfl rfl ?_
          refine g_iload_n dX4_sheet_64 rfl ?_
          refine g_iload_n dX4_sheet_65 rfl ?_
          refine g_iast0 j dX4_sheet_66 rfl rfl (by omega) ?_
          refine g_aload_n dX4_sheet_67 rfl ?_
          refine g_getR dX4_sheet_68 fl_X4_25 rfl rfl ?_
          refine g_iload_n dX4_sheet_71 rfl ?_
          refine g_iload_n dX4_sheet_72 rfl ?_
          refine g_if_ne 80 dX4_sheet_73 (by decide) (fun c73 => ?_) (fun c73 => ?_)
          · refine g_iload_n dX4_sheet_80 rfl ?_
            refine g_iast j dX4_sheet_81 rfl rfl (by omega) ?_
            refine g_iconst dX4_sheet_82 ic_0 ?_
            refine g_istore dX4_sheet_83 (by decide) rfl ?_
            rw [f_sheet, if_pos hP, if_pos c37, if_pos c50, tj]
            simp only [oV, oG]
            first
            | (rw [if_pos c73]; exact g_h (by rw [up_setg, up_setg, setg_s, setg_2, fil_0 _ (by omega)]) (l_X4_sheet hj 0 (by decide)))
            | (rw [if_neg c73]; exact g_h (by rw [up_setg, up_setg, setg_s, setg_2, fil_0 _ (by omega)]) (l_X4_sheet hj 0 (by decide)))
          · refine g_iconst dX4_sheet_76 ic_0 ?_
            refine g_goto 81 dX4_sheet_77 (by decide) ?_
            refine g_iast j dX4_sheet_81 rfl rfl (by omega) ?_
            refine g_iconst dX4_sheet_82 ic_0 ?_
            refine g_istore dX4_sheet_83 (by decide) rfl ?_
            rw [f_sheet, if_pos hP, if_pos c37, if_pos c50, tj]
            simp only [oV, oG]
            first
            | (rw [if_pos c73]; exact g_h (by rw [up_setg, up_setg, setg_s, setg_2, fil_0 _ (by omega)]) (l_X4_sheet hj 0 (by decide)))
            | (rw [if_neg c73]; exact g_h (by rw [up_setg, up_setg, setg_s, setg_2, fil_0 _ (by omega)]) (l_X4_sheet hj 0 (by decide)))
        · refine g_aload_n dX4_sheet_53 rfl ?_
          refine g_ldc dX4_sheet_54 lc_X4_34 ?_
          refine g_callV1i (c_X4_finds 0 (by decide) (by decide)) mi_X4_finds mv_X4_finds ml_X4_36 dX4_sheet_56 rfl rfl (by decide) (Nat.le_of_ble_eq_true rfl) (Nat.le_of_ble_eq_true rfl) ?_
          exact g_ireturn dX4_sheet_59 (by rw [f_sheet, if_pos hP, if_pos c37, if_neg c50]; rfl) (by rw [f_sheet, if_pos hP, if_pos c37, if_neg c50]; rfl)
      · refine g_aload_n dX4_sheet_40 rfl ?_
        refine g_ldc dX4_sheet_41 lc_X4_244 ?_
        refine g_callV1i (c_X4_finds 6 (by decide) (by decide)) mi_X4_finds mv_X4_finds ml_X4_36 dX4_sheet_43 rfl rfl (by decide) (Nat.le_of_ble_eq_true rfl) (Nat.le_of_ble_eq_true rfl) ?_
        exact g_ireturn dX4_sheet_46 (by rw [f_sheet, if_pos hP, if_neg c37]; rfl) (by rw [f_sheet, if_pos hP, if_neg c37]; rfl)
    · refine g_iload_n dX4_sheet_11 rfl ?_
      refine g_bipush dX4_sheet_12 bp_8 ?_
      refine g_icmp_eq 36 dX4_sheet_14 (by decide) (fun c14 => ?_) (fun c14 => ?_)
      · have hP : (inB s 0 3 && (decide (b = 0) || decide (b = 8) || decide (b = 16) || decide (b = 32))) = true := by simp_all [bI_0]
        refine g_iload_n dX4_sheet_36 rfl ?_
        refine g_if_ge 47 dX4_sheet_37 (by decide) (fun c37 => ?_) (fun c37 => ?_)
        · refine g_iload_n dX4_sheet_47 rfl ?_
          refine g_bipush dX4_sheet_48 bp_40 ?_
          refine g_icmp_le 60 dX4_sheet_50 (by decide) (fun c50 => ?_) (fun c50 => ?_)
          · obtain ⟨j, hj, tj, rfl⟩ := inB_of 3 (by decide) (nb0 c4)
            refine g_aload_n dX4_sheet_60 rfl ?_
            refine g_getR dX4_sheet_61 fl_X4_22 rfl rfl ?_
            refine g_iload_n dX4_sheet_64 rfl ?_
            refine g_iload_n dX4_sheet_65 rfl ?_
            refine g_iast0 j dX4_sheet_66 rfl rfl (by omega) ?_
            refine g_aload_n dX4_sheet_67 rfl ?_
            refine g_getR dX4_sheet_68 fl_X4_25 rfl rfl ?_
            refine g_iload_n dX4_sheet_71 rfl ?_
            refine g_iload_n dX4_sheet_72 rfl ?_
            refine g_if_ne 80 dX4_sheet_73 (by decide) (fun c73 => ?_) (fun c73 => ?_)
            · refine g_iload_n dX4_sheet_80 rfl ?_
              refine g_iast j dX4_sheet_81 rfl rfl (by omega) ?_
              refine g_iconst dX4_sheet_82 ic_0 ?_
              refine g_istore dX4_sheet_83 (by decide) rfl ?_
              rw [f_sheet, if_pos hP, if_pos c37, if_pos c50, tj]
              simp only [oV, oG]
              first
              | (rw [if_pos c73]; exact g_h (by rw [up_setg, up_setg, setg_s, setg_2, fil_0 _ (by omega)]) (l_X4_sheet hj 0 (by decide)))
              | (rw [if_neg c73]; exact g_h (by rw [up_setg, up_setg, setg_s, setg_2, fil_0 _ (by omega)]) (l_X4_sheet hj 0 (by decide)))
            · refine g_iconst dX4_sheet_76 ic_0 ?_
              refine g_goto 81 dX4_sheet_77 (by decide) ?_
              refine g_iast j dX4_sheet_81 rfl rfl (by omega) ?_
              refine g_iconst dX4_sheet_82 ic_0 ?_
              refine g_istore dX4_sheet_83 (by decide) rfl ?_
              rw [f_sheet, if_pos hP, if_pos c37, if_pos c50, tj]
              simp only [oV, oG]
              first
              | (rw [if_pos c73]; exact g_h (by rw [up_setg, up_setg, setg_s, setg_2, fil_0 _ (by omega)]) (l_X4_sheet hj 0 (by decide)))
              | (rw [if_neg c73]; exact g_h (by rw [up_setg, up_setg, setg_s, setg_2, fil_0 _ (by omega)]) (l_X4_sheet hj 0 (by decide)))
          · refine g_aload_n dX4_sheet_53 rfl ?_
            refine g_ldc dX4_sheet_54 lc_X4_34 ?_
            refine g_callV1i (c_X4_finds 0 (by decide) (by decide)) mi_X4_finds mv_X4_finds ml_X4_36 dX4_sheet_56 rfl rfl (by decide) (Nat.le_of_ble_eq_true rfl) (Nat.le_of_ble_eq_true rfl) ?_
            exact g_ireturn dX4_sheet_59 (by rw [f_sheet, if_pos hP, if_pos c37, if_neg c50]; rfl) (by rw [f_sheet, if_pos hP, if_pos c37, if_neg c50]; rfl)
        · refine g_aload_n dX4_sheet_40 rfl ?_
          refine g_ldc dX4_sheet_41 lc_X4_244 ?_
          refine g_callV1i (c_X4_finds 6 (by decide) (by decide)) mi_X4_finds mv_X4_finds ml_X4_36 dX4_sheet_43 rfl rfl (by decide) (Nat.le_of_ble_eq_true rfl) (Nat.le_of_ble_eq_true rfl) ?_
          exact g_ireturn dX4_sheet_46 (by rw [f_sheet, if_pos hP, if_neg c37]; rfl) (by rw [f_sheet, if_pos hP, if_neg c37]; rfl)
      · refine g_iload_n dX4_sheet_17 rfl ?_
        refine g_bipush dX4_sheet_18 bp_16 ?_
        refine g_icmp_eq 36 dX4_sheet_20 (by decide) (fun c20 => ?_) (fun c20 => ?_)
        · have hP : (inB s 0 3 && (decide (b = 0) || decide (b = 8) || decide (b = 16) || decide (b = 32))) = true := by simp_all [bI_0]
          refine g_iload_n dX4_sheet_36 rfl ?_
          refine g_if_ge 47 dX4_sheet_37 (by decide) (fun c37 => ?_) (fun c37 => ?_)
          · refine g_iload_n dX4_sheet_47 rfl ?_
            refine g_bipush dX4_sheet_48 bp_40 ?_
            refine g_icmp_le 60 dX4_sheet_50 (by decide) (fun c50 => ?_) (fun c50 => ?_)
            · obtain ⟨j, hj, tj, rfl⟩ := inB_of 3 (by decide) (nb0 c4)
              refine g_aload_n dX4_sheet_60 rfl ?_
              refine g_getR dX4_sheet_61 fl_X4_22 rfl rfl ?_
              refine g_iload_n dX4_sheet_64 rfl ?_
              refine g_iload_n dX4_sheet_65 rfl ?_
              refine g_iast0 j dX4_sheet_66 rfl rfl (by omega) ?_
              refine g_aload_n dX4_sheet_67 rfl ?_
              refine g_getR dX4_sheet_68 fl_X4_25 rfl rfl ?_
              refine g_iload_n dX4_sheet_71 rfl ?_
              refine g_iload_n dX4_sheet_72 rfl ?_
              refine g_if_ne 80 dX4_sheet_73 (by decide) (fun c73 => ?_) (fun c73 => ?_)
              · refine g_iload_n dX4_sheet_80 rfl ?_
                refine g_iast j dX4_sheet_81 rfl rfl (by omega) ?_
                refine g_iconst dX4_sheet_82 ic_0 ?_
                refine g_istore dX4_sheet_83 (by decide) rfl ?_
                rw [f_sheet, if_pos hP, if_pos c37, if_pos c50, tj]
                simp only [oV, oG]
                first
                | (rw [if_pos c73]; exact g_h (by rw [up_setg, up_setg, setg_s, setg_2, fil_0 _ (by omega)]) (l_X4_sheet hj 0 (by decide)))
                | (rw [if_neg c73]; exact g_h (by rw [up_setg, up_setg, setg_s, setg_2, fil_0 _ (by omega)]) (l_X4_sheet hj 0 (by decide)))
              · refine g_iconst dX4_sheet_76 ic_0 ?_
                refine g_goto 81 dX4_sheet_77 (by decide) ?_
                refine g_iast j dX4_sheet_81 rfl rfl (by omega) ?_
                refine g_iconst dX4_sheet_82 ic_0 ?_
                refine g_istore dX4_sheet_83 (by decide) rfl ?_
                rw [f_sheet, if_pos hP, if_pos c37, if_pos c50, tj]
                simp only [oV, oG]
                first
                | (rw [if_pos c73]; exact g_h (by rw [up_setg, up_setg, setg_s, setg_2, fil_0 _ (by omega)]) (l_X4_sheet hj 0 (by decide)))
                | (rw [if_neg c73]; exact g_h (by rw [up_setg, up_setg, setg_s, setg_2, fil_0 _ (by omega)]) (l_X4_sheet hj 0 (by decide)))
            · refine g_aload_n dX4_sheet_53 rfl ?_
              refine g_ldc dX4_sheet_54 lc_X4_34 ?_
              refine g_callV1i (c_X4_finds 0 (by decide) (by decide)) mi_X4_finds mv_X4_finds ml_X4_36 dX4_sheet_56 rfl rfl (by decide) (Nat.le_of_ble_eq_true rfl) (Nat.le_of_ble_eq_true rfl) ?_
              exact g_ireturn dX4_sheet_59 (by rw [f_sheet, if_pos hP, if_pos c37, if_neg c50]; rfl) (by rw [f_sheet, if_pos hP, if_pos c37, if_neg c50]; rfl)
          · refine g_aload_n dX4_sheet_40 rfl ?_
            refine g_ldc dX4_sheet_41 lc_X4_244 ?_
            refine g_callV1i (c_X4_finds 6 (by decide) (by decide)) mi_X4_finds mv_X4_finds ml_X4_36 dX4_sheet_43 rfl rfl (by decide) (Nat.le_of_ble_eq_true rfl) (Nat.le_of_ble_eq_true rfl) ?_
            exact g_ireturn dX4_sheet_46 (by rw [f_sheet, if_pos hP, if_neg c37]; rfl) (by rw [f_sheet, if_pos hP, if_neg c37]; rfl)
        · refine g_iload_n dX4_sheet_23 rfl ?_
          refine g_bipush dX4_sheet_24 bp_32 ?_
          refine g_icmp_eq 36 dX4_sheet_26 (by decide) (fun c26 => ?_) (fun c26 => ?_)
          · have hP : (inB s 0 3 && (decide (b = 0) || decide (b = 8) || decide (b = 16) || decide (b = 32))) = true := by simp_all [bI_0]
            refine g_iload_n dX4_sheet_36 rfl ?_
            refine g_if_ge 47 dX4_sheet_37 (by decide) (fun c37 => ?_) (fun c37 => ?_)
            · refine g_iload_n dX4_sheet_47 rfl ?_
              refine g_bipush dX4_sheet_48 bp_40 ?_
              refine g_icmp_le 60 dX4_sheet_50 (by decide) (fun c50 => ?_) (fun c50 => ?_)
              · obtain ⟨j, hj, tj, rfl⟩ := inB_of 3 (by decide) (nb0 c4)
                refine g_aload_n dX4_sheet_60 rfl ?_
                refine g_getR dX4_sheet_61 fl_X4_22 rfl rfl ?_
                refine g_iload_n dX4_sheet_64 rfl ?_
                refine g_iload_n dX4_sheet_65 rfl ?_
                refine g_iast0 j dX4_sheet_66 rfl rfl (by omega) ?_
                refine g_aload_n dX4_sheet_67 rfl ?_
                refine g_getR dX4_sheet_68 fl_X4_25 rfl rfl ?_
                refine g_iload_n dX4_sheet_71 rfl ?_
                refine g_iload_n dX4_sheet_72 rfl ?_
                refine g_if_ne 80 dX4_sheet_73 (by decide) (fun c73 => ?_) (fun c73 => ?_)
                · refine g_iload_n dX4_sheet_80 rfl ?_
                  refine g_iast j dX4_sheet_81 rfl rfl (by omega) ?_
                  refine g_iconst dX4_sheet_82 ic_0 ?_
                  refine g_istore dX4_sheet_83 (by decide) rfl ?_
                  rw [f_sheet, if_pos hP, if_pos c37, if_pos c50, tj]
                  simp only [oV, oG]
                  first
                  | (rw [if_pos c73]; exact g_h (by rw [up_setg, up_setg, setg_s, setg_2, fil_0 _ (by omega)]) (l_X4_sheet hj 0 (by decide)))
                  | (rw [if_neg c73]; exact g_h (by rw [up_setg, up_setg, setg_s, setg_2, fil_0 _ (by omega)]) (l_X4_sheet hj 0 (by decide)))
                · refine g_iconst dX4_sheet_76 ic_0 ?_
                  refine g_goto 81 dX4_sheet_77 (by decide) ?_
                  refine g_iast j dX4_sheet_81 rfl rfl (by omega) ?_
                  refine g_iconst dX4_sheet_82 ic_0 ?_
                  refine g_istore dX4_sheet_83 (by decide) rfl ?_
                  rw [f_sheet, if_pos hP, if_pos c37, if_pos c50, tj]
                  simp only [oV, oG]
                  first
                  | (rw [if_pos c73]; exact g_h (by rw [up_setg, up_setg, setg_s, setg_2, fil_0 _ (by omega)]) (l_X4_sheet hj 0 (by decide)))
                  | (rw [if_neg c73]; exact g_h (by rw [up_setg, up_setg, setg_s, setg_2, fil_0 _ (by omega)]) (l_X4_sheet hj 0 (by decide)))
              · refine g_aload_n dX4_sheet_53 rfl ?_
                refine g_ldc dX4_sheet_54 lc_X4_34 ?_
                refine g_callV1i (c_X4_finds 0 (by decide) (by decide)) mi_X4_finds mv_X4_finds ml_X4_36 dX4_sheet_56 rfl rfl (by decide) (Nat.le_of_ble_eq_true rfl) (Nat.le_of_ble_eq_true rfl) ?_
                exact g_ireturn dX4_sheet_59 (by rw [f_sheet, if_pos hP, if_pos c37, if_neg c50]; rfl) (by rw [f_sheet, if_pos hP, if_pos c37, if_neg c50]; rfl)
            · refine g_aload_n dX4_sheet_40 rfl ?_
              refine g_ldc dX4_sheet_41 lc_X4_244 ?_
              refine g_callV1i (c_X4_finds 6 (by decide) (by decide)) mi_X4_finds mv_X4_finds ml_X4_36 dX4_sheet_43 rfl rfl (by decide) (Nat.le_of_ble_eq_true rfl) (Nat.le_of_ble_eq_true rfl) ?_
              exact g_ireturn dX4_sheet_46 (by rw [f_sheet, if_pos hP, if_neg c37]; rfl) (by rw [f_sheet, if_pos hP, if_neg c37]; rfl)
          · refine g_aload_n dX4_sheet_29 rfl ?_
            refine g_ldc dX4_sheet_30 lc_X4_34 ?_
            refine g_callV1i (c_X4_finds 0 (by decide) (by decide)) mi_X4_finds mv_X4_finds ml_X4_36 dX4_sheet_32 rfl rfl (by decide) (Nat.le_of_ble_eq_true rfl) (Nat.le_of_ble_eq_true rfl) ?_
            exact g_ireturn dX4_sheet_35 (by simp_all [f_sheet, oV, fvl_0, fvl_1, fvl_2, fvl_3, fvl_4, fvl_5, fvl_6, bI_0]) (by simp_all [f_sheet, oG, bI_0, setg_id])

