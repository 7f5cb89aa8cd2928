set_option maxRecDepth 100000 in
set_option maxHeartbeats 4000000 in
theorem l_rd103 {X : Sc} {h : Hp} {n : Nat} (e0 : h 4 0 = nI n) (hn : n ≤ 120) {q : Tk} (hq : TkOk (cC (h 4)) n q) (hI : In (h 3)) (h8 : nD (h 3) < 8) {x l r p s : Int32} : Go X RX2 cX2_readDish 8 6 103 [.ref 16, .ref 11, .int x, .int l, .int r, .int p, .int s, .null] [] (hT h q) (some (.int (bI (rdD5 (nx true (cC (h 4)) n) (cC (h 4)) (h 3) x l r p s q).1))) (hT (setg h 3 (rdD5 (nx true (cC (h 4)) n) (cC (h 4)) (h 3) x l r p s q).2.1) (rdD5 (nx true (cC (h 4)) n) (cC (h 4)) (h 3) x l r p s q).2.2) := by
  have e2 : (hT h q) 3 2 = nI (nD ((hT h q) 3)) := hI.nD.2
  refine g_aload_n dX2_readDish_103 rfl ?_
  refine g_iload_n dX2_readDish_104 rfl ?_
  refine g_iload_n dX2_readDish_105 rfl ?_
  refine g_iload dX2_readDish_106 rfl ?_
  refine g_callV3i (c_X0_addDish inn3 (h := hT h q) e2 h8) mi_X0_addDish mv_X0_addDish ml_X2_71 dX2_readDish_108 inn3.1 rfl (by decide) (Nat.le_of_ble_eq_true rfl) (Nat.le_of_ble_eq_true rfl) ?_
  rw [hT_g _ _ (by decide), setg_hT _ _ (by decide)]
  refine g_istore dX2_readDish_111 (by decide) rfl ?_
  refine g_aload_n dX2_readDish_113 rfl ?_
  refine g_iload dX2_readDish_114 rfl ?_
  refine g_iconst dX2_readDish_116 ic_3 ?_
  refine g_iload dX2_readDish_117 rfl ?_
  refine g_callV3v (c_X0_putDishFact inn3 (w := 3) h8 (by decide)) mi_X0_putDishFact mv_X0_putDishFact ml_X2_75 dX2_readDish_119 inn3.1 rfl (by decide) (Nat.le_of_ble_eq_true rfl) (Nat.le_of_ble_eq_true rfl) ?_
  rw [hT_g _ _ (by decide), setg_s, setg_hT _ _ (by decide), setg_2]
  refine g_aload_n dX2_readDish_122 rfl ?_
  refine g_iload dX2_readDish_123 rfl ?_
  refine g_iconst dX2_readDish_125 ic_4 ?_
  refine g_iload dX2_readDish_126 rfl ?_
  refine g_callV3v (c_X0_putDishFact inn3 (w := 4) h8 (by decide)) mi_X0_putDishFact mv_X0_putDishFact ml_X2_75 dX2_readDish_128 inn3.1 rfl (by decide) (Nat.le_of_ble_eq_true rfl) (Nat.le_of_ble_eq_true rfl) ?_
  rw [hT_g _ _ (by decide), setg_s, setg_hT _ _ (by decide), setg_2]
  refine g_aload_n dX2_readDish_131 rfl ?_
  refine g_iload dX2_readDish_132 rfl ?_
  refine g_iconst dX2_readDish_134 ic_5 ?_
  refine g_aload_n dX2_readDish_135 rfl ?_
  refine g_ldcS 12 (by decide) dX2_readDish_136 rfl rfl ?_
  refine g_callV1i (c_X2_takeWord (i := 12) (h := setg h 3 (pD (pD (newD (h 3) x l r) (nD (h 3)) 3 p) (nD (h 3)) 4 s)) (n := n) e0 hn hq (by decide)) mi_X2_takeWord mv_X2_takeWord ml_X2_66 dX2_readDish_138 rfl rfl (by decide) (Nat.le_of_ble_eq_true rfl) (Nat.le_of_ble_eq_true rfl) ?_
  rw [setg_n h _ (show 4 ≠ 3 by decide)]
  refine g_if_eq 148 dX2_readDish_141 (by decide) (fun c141 => ?_) (fun c141 => ?_)
  · have w1 : isW (cC (h 4)) q 12 = false := (bI_0 _).mp c141
    refine g_iconst dX2_readDish_148 ic_0 ?_
    refine g_callV3v (c_X0_putDishFact inn3 (w := 5) h8 (by decide)) mi_X0_putDishFact mv_X0_putDishFact ml_X2_75 dX2_readDish_149 inn3.1 rfl (by decide) (Nat.le_of_ble_eq_true rfl) (Nat.le_of_ble_eq_true rfl) ?_
    rw [hT_g _ _ (by decide), setg_s, setg_hT _ _ (by decide), setg_2]
    refine g_iconst dX2_readDish_152 ic_1 ?_
    exact g_ireturn dX2_readDish_153 rfl (by rw [rdD5, w1]; rfl)
  · have w1 : isW (cC (h 4)) q 12 = true := by cases w1 : isW (cC (h 4)) q 12 with
      | true => rfl
      | false => exact absurd (by rw [w1]; rfl) c141
    refine g_iconst dX2_readDish_144 ic_1 ?_
    refine g_goto 149 dX2_readDish_145 (by decide) ?_
    refine g_callV3v (c_X0_putDishFact inn3 (w := 5) h8 (by decide)) mi_X0_putDishFact mv_X0_putDishFact ml_X2_75 dX2_readDish_149 inn3.1 rfl (by decide) (Nat.le_of_ble_eq_true rfl) (Nat.le_of_ble_eq_true rfl) ?_
    rw [hT_g _ _ (by decide), setg_s, setg_hT _ _ (by decide), setg_2]
    refine g_iconst dX2_readDish_152 ic_1 ?_
    exact g_ireturn dX2_readDish_153 rfl (by rw [rdD5, w1]; rfl)

set_option maxRecDepth 100000 in
set_option maxHeartbeats 4000000 in
theorem l_rd74 {X : Sc} {h : Hp} {n : Nat} (e0 : h 4 0 = nI n) (hn : n ≤ 120) {q : Tk} (hq : TkOk (cC (h 4)) n q) (hI : In (h 3)) (h8 : nD (h 3) < 8) {x l r p : Int32} : Go X RX2 cX2_readDish 8 6 74 [.ref 16, .ref 11, .int x, .int l, .int r, .int p, .null, .null] [] (hT h q) (some (.int (bI (rdD4 (nx true (cC (h 4)) n) (cC (h 4)) (h 3) x l r p q).1))) (hT (setg h 3 (rdD4 (nx true (cC (h 4)) n) (cC (h 4)) (h 3) x l r p q).2.1) (rdD4 (nx true (cC (h 4)) n) (cC (h 4)) (h 3) x l r p q).2.2) := by
  refine g_aload_n dX2_readDish_74 rfl ?_
  refine g_ldcS 11 (by decide) dX2_readDish_75 rfl rfl ?_
  refine g_callV1i (c_X2_takeWord (i := 11) e0 hn hq (by decide)) mi_X2_takeWord mv_X2_takeWord ml_X2_66 dX2_readDish_77 rfl rfl (by decide) (Nat.le_of_ble_eq_true rfl) (Nat.le_of_ble_eq_true rfl) ?_
  refine g_if_eq 93 dX2_readDish_80 (by decide) (fun c80 => ?_) (fun c80 => ?_)
  · have w1 : isW (cC (h 4)) q 11 = false := (bI_0 _).mp c80
    rw [tkW_f w1, show rdD4 (nx true (cC (h 4)) n) (cC (h 4)) (h 3) x l r p q = rdD5 (nx true (cC (h 4)) n) (cC (h 4)) (h 3) x l r p 0 q from by rw [rdD4, w1]; rfl]
    refine g_iconst dX2_readDish_93 ic_0 ?_
    refine g_istore dX2_readDish_94 (by decide) rfl ?_
    refine g_iload dX2_readDish_96 rfl ?_
    refine g_if_ge 103 dX2_readDish_98 (by decide) (fun c98 => ?_) (fun c98 => ?_)
    · exact l_rd103 e0 hn hq hI h8
    · exact absurd (show (0 : Int32) ≤ 0 by decide) c98
  · have w1 : isW (cC (h 4)) q 11 = true := by cases w1 : isW (cC (h 4)) q 11 with
      | true => rfl
      | false => exact absurd (by rw [w1]; rfl) c80
    rw [tkW_t w1, show rdD4 (nx true (cC (h 4)) n) (cC (h 4)) (h 3) x l r p q = (if okN 9999 ((nx true (cC (h 4)) n) q.b) = true then rdD5 (nx true (cC (h 4)) n) (cC (h 4)) (h 3) x l r p (nI ((nx true (cC (h 4)) n) q.b).v) (tkN (nx true (cC (h 4)) n) 9999 ((nx true (cC (h 4)) n) q.b)) else (false, h 3, (nx true (cC (h 4)) n) q.b)) from by rw [rdD4, w1]; rfl]
    have h4 := ok_N (fl := true) hq
    generalize nx true (cC (h 4)) n q.b = q4 at h4 ⊢
    refine g_aload_n dX2_readDish_83 rfl ?_
    refine g_sipush dX2_readDish_84 sp_9999 ?_
    refine g_callV1i (c_X2_takeNumber (T := 9999) e0 hn h4 (by decide)) mi_X2_takeNumber mv_X2_takeNumber ml_X2_60 dX2_readDish_87 rfl rfl (by decide) (Nat.le_of_ble_eq_true rfl) (Nat.le_of_ble_eq_true rfl) ?_
    refine g_goto 94 dX2_readDish_90 (by decide) ?_
    refine g_istore dX2_readDish_94 (by decide) rfl ?_
    refine g_iload dX2_readDish_96 rfl ?_
    refine g_if_ge 103 dX2_readDish_98 (by decide) (fun c98 => ?_) (fun c98 => ?_)
    · have o1 := tnV_t c98
      rw [if_pos o1, tnV_v o1]
      exact l_rd103 e0 hn (ok_tkN h4) hI h8
    · have o1 := tnV_f h4.2.2.1 c98
      rw [if_neg (by rw [o1]; decide), tkN_f o1]
      show Go _ _ _ _ _ _ _ _ _ (some (.int 0)) (hT (setg h 3 (h 3)) q4)
      rw [setg_id]
      refine g_iconst dX2_readDish_101 ic_0 ?_
      exact g_ireturn dX2_readDish_102 rfl rfl

set_option maxRecDepth 100000 in
set_option maxHeartbeats 4000000 in
theorem c_X2_readDish {X : Sc} {h : Hp} {n : Nat} (e0 : h 4 0 = nI n) (hn : n ≤ 120) {q : Tk} (hq : TkOk (cC (h 4)) n q) (hI : In (h 3)) {x : Int32} : Ct X yX2_readDish cX2_readDish 8 (some .boolean) 6 [.ref 16, .ref 11, .int x] (hT h q) (some (.int (bI (rdD (nx true (cC (h 4)) n) (cC (h 4)) (h 3) x q).1))) (hT (setg h 3 (rdD (nx true (cC (h 4)) n) (cC (h 4)) (h 3) x q).2.1) (rdD (nx true (cC (h 4)) n) (cC (h 4)) (h 3) x q).2.2) := by
  have e2 : h 3 2 = nI (nD (h 3)) := hI.nD.2
  have l2 := hI.nD.1
  refine ⟨rok_b _, ?_⟩
  refine g_aload_n dX2_readDish_0 rfl ?_
  refine g_getI dX2_readDish_1 fl_X2_57 inn3.1 rfl ?_
  rw [hT_g _ _ (by decide), e2]
  refine g_bipush dX2_readDish_4 bp_8 ?_
  refine g_icmp_lt 11 dX2_readDish_6 (by decide) (fun c6 => ?_) (fun c6 => ?_)
  · have h8 : nD (h 3) < 8 := (nI_ltI (a := nD (h 3)) (b := 8) (by omega) (by decide)).mp c6
    refine g_aload_n dX2_readDish_11 rfl ?_
    refine g_callV0v (c_X2_next e0 hn hq.2.1) mi_X2_nextToken mv_X2_nextToken ml_X2_20 dX2_readDish_12 rfl rfl (by decide) (Nat.le_of_ble_eq_true rfl) (Nat.le_of_ble_eq_true rfl) ?_
    rw [show rdD (nx true (cC (h 4)) n) (cC (h 4)) (h 3) x q = rdD1 (nx true (cC (h 4)) n) (cC (h 4)) (h 3) x ((nx true (cC (h 4)) n) q.b) from if_pos h8]
    have h1 := ok_N (fl := true) hq
    generalize nx true (cC (h 4)) n q.b = q1 at h1 ⊢
    refine g_aload_n dX2_readDish_15 rfl ?_
    refine g_bipush dX2_readDish_16 bp_11 ?_
    refine g_callV1i (c_X2_takeNumber (T := 11) e0 hn h1 (by decide)) mi_X2_takeNumber mv_X2_takeNumber ml_X2_60 dX2_readDish_18 rfl rfl (by decide) (Nat.le_of_ble_eq_true rfl) (Nat.le_of_ble_eq_true rfl) ?_
    refine g_istore_n dX2_readDish_21 (by decide) rfl ?_
    refine g_iload_n dX2_readDish_22 rfl ?_
    refine g_if_ge 30 dX2_readDish_23 (by decide) (fun c23 => ?_) (fun c23 => ?_)
    · have o1 := tnV_t c23
      rw [show rdD1 (nx true (cC (h 4)) n) (cC (h 4)) (h 3) x q1 = rdD2 (nx true (cC (h 4)) n) (cC (h 4)) (h 3) x (nI q1.v) (tkN (nx true (cC (h 4)) n) 11 q1) from if_pos o1, tnV_v o1]
      have h2 := ok_tkN (fl := true) (T := 11) h1
      generalize tkN (nx true (cC (h 4)) n) 11 q1 = q2 at h2 ⊢
      refine g_aload_n dX2_readDish_30 rfl ?_
      refine g_bipush dX2_readDish_31 bp_11 ?_
      refine g_callV1i (c_X2_takeNumber (T := 11) e0 hn h2 (by decide)) mi_X2_takeNumber mv_X2_takeNumber ml_X2_60 dX2_readDish_33 rfl rfl (by decide) (Nat.le_of_ble_eq_true rfl) (Nat.le_of_ble_eq_true rfl) ?_
      refine g_istore dX2_readDish_36 (by decide) rfl ?_
      refine g_iload dX2_readDish_38 rfl ?_
      refine g_if_ge 45 dX2_readDish_40 (by decide) (fun c40 => ?_) (fun c40 => ?_)
      · have o2 := tnV_t c40
        rw [show rdD2 (nx true (cC (h 4)) n) (cC (h 4)) (h 3) x (nI q1.v) q2 = rdD3 (nx true (cC (h 4)) n) (cC (h 4)) (h 3) x (nI q1.v) (nI q2.v) (tkN (nx true (cC (h 4)) n) 11 q2) from if_pos o2, tnV_v o2]
        have h3 := ok_tkN (fl := true) (T := 11) h2
        generalize tkN (nx true (cC (h 4)) n) 11 q2 = q3 at h3 ⊢
        refine g_aload_n dX2_readDish_45 rfl ?_
        refine g_ldcS 10 (by decide) dX2_readDish_46 rfl rfl ?_
        refine g_callV1i (c_X2_takeWord (i := 10) e0 hn h3 (by decide)) mi_X2_takeWord mv_X2_takeWord ml_X2_66 dX2_readDish_48 rfl rfl (by decide) (Nat.le_of_ble_eq_true rfl) (Nat.le_of_ble_eq_true rfl) ?_
        refine g_if_eq 63 dX2_readDish_51 (by decide) (fun c51 => ?_) (fun c51 => ?_)
        · have w1 : isW (cC (h 4)) q3 10 = false := (bI_0 _).mp c51
          rw [tkW_f w1, show rdD3 (nx true (cC (h 4)) n) (cC (h 4)) (h 3) x (nI q1.v) (nI q2.v) q3 = rdD4 (nx true (cC (h 4)) n) (cC (h 4)) (h 3) x (nI q1.v) (nI q2.v) 10 q3 from by rw [rdD3, w1]; rfl]
          refine g_bipush dX2_readDish_63 bp_10 ?_
          refine g_istore dX2_readDish_65 (by decide) rfl ?_
          refine g_iload dX2_readDish_67 rfl ?_
          refine g_if_ge 74 dX2_readDish_69 (by decide) (fun c69 => ?_) (fun c69 => ?_)
          · exact l_rd74 e0 hn h3 hI h8
          · exact absurd (show (0 : Int32) ≤ 10 by decide) c69
        · have w1 : isW (cC (h 4)) q3 10 = true := by cases w1 : isW (cC (h 4)) q3 10 with
            | true => rfl
            | false => exact absurd (by rw [w1]; rfl) c51
          rw [tkW_t w1, show rdD3 (nx true (cC (h 4)) n) (cC (h 4)) (h 3) x (nI q1.v) (nI q2.v) q3 = (if okN 99 ((nx true (cC (h 4)) n) q3.b) = true then rdD4 (nx true (cC (h 4)) n) (cC (h 4)) (h 3) x (nI q1.v) (nI q2.v) (nI ((nx true (cC (h 4)) n) q3.b).v) (tkN (nx true (cC (h 4)) n) 99 ((nx true (cC (h 4)) n) q3.b)) else (false, h 3, (nx true (cC (h 4)) n) q3.b)) from by rw [rdD3, w1]; rfl]
          have h4 := ok_N (fl := true) h3
          generalize nx true (cC (h 4)) n q3.b = q4 at h4 ⊢
          refine g_aload_n dX2_readDish_54 rfl ?_
          refine g_bipush dX2_readDish_55 bp_99 ?_
          refine g_callV1i (c_X2_takeNumber (T := 99) e0 hn h4 (by decide)) mi_X2_takeNumber mv_X2_takeNumber ml_X2_60 dX2_readDish_57 rfl rfl (by decide) (Nat.le_of_ble_eq_true rfl) (Nat.le_of_ble_eq_true rfl) ?_
          refine g_goto 65 dX2_readDish_60 (by decide) ?_
          refine g_istore dX2_readDish_65 (by decide) rfl ?_
          refine g_iload dX2_readDish_67 rfl ?_
          refine g_if_ge 74 dX2_readDish_69 (by decide) (fun c69 => ?_) (fun c69 => ?_)
          · have o1 := tnV_t c69
            rw [if_pos o1, tnV_v o1]
            exact l_rd74 e0 hn (ok_tkN h4) hI h8
          · have o1 := tnV_f h4.2.2.1 c69
            rw [if_neg (by rw [o1]; decide), tkN_f o1]
            show Go _ _ _ _ _ _ _ _ _ (some (.int 0)) (hT (setg h 3 (h 3)) q4)
            rw [setg_id]
            refine g_iconst dX2_readDish_72 ic_0 ?_
            exact g_ireturn dX2_readDish_73 rfl rfl
      · have o2 := tnV_f h2.2.2.1 c40
        have eR : rdD2 (nx true (cC (h 4)) n) (cC (h 4)) (h 3) x (nI q1.v) q2 = (false, h 3, q2) := by rw [rdD2, o2]; rfl
        rw [eR]
        show Go _ _ _ _ _ _ _ _ _ (some (.int 0)) (hT (setg h 3 (h 3)) q2)
        rw [setg_id]
        rw [tkN_f o2]
        refine g_iconst dX2_readDish_43 ic_0 ?_
        exact g_ireturn dX2_readDish_44 rfl rfl
    · have o1 := tnV_f h1.2.2.1 c23
      have eR : rdD1 (nx true (cC (h 4)) n) (cC (h 4)) (h 3) x q1 = (false, h 3, q1) := by rw [rdD1, o1]; rfl
      rw [eR]
      show Go _ _ _ _ _ _ _ _ _ (some (.int 0)) (hT (setg h 3 (h 3)) q1)
      rw [setg_id]
      rw [tkN_f o1]
      refine g_iconst dX2_readDish_26 ic_m1 ?_
      refine g_goto 36 dX2_readDish_27 (by decide) ?_
      refine g_istore dX2_readDish_36 (by decide) rfl ?_
      refine g_iload dX2_readDish_38 rfl ?_
      refine g_if_ge 45 dX2_readDish_40 (by decide) (fun c40 => ?_) (fun c40 => ?_)
      · exact absurd c40 (by decide)
      · refine g_iconst dX2_readDish_43 ic_0 ?_
        exact g_ireturn dX2_readDish_44 rfl rfl
  · have n8 : ¬ nD (h 3) < 8 := fun q => c6 (nI_lt q (by decide))
    have eR : rdD (nx true (cC (h 4)) n) (cC (h 4)) (h 3) x q = (false, h 3, q) := by rw [rdD, if_neg n8]
    rw [eR]
    show Go _ _ _ _ _ _ _ _ _ (some (.int 0)) (hT (setg h 3 (h 3)) q)
    rw [setg_id]
    refine g_iconst dX2_readDish_9 ic_0 ?_
    exact g_ireturn dX2_readDish_10 rfl rfl

set_option maxRecDepth 100000 in
set_option maxHeartbeats 4000000 in
theorem c_X2_readGuest {X : Sc} {h : Hp} {n : Nat} (e0 : h 4 0 = nI n) (hn : n ≤ 120) {q : Tk} (hq : TkOk (cC (h 4)) n q) (hI : In (h 3)) : Ct X yX2_readGuest cX2_readGuest 5 (some .boolean) 6 [.ref 16, .ref 11] (hT h q) (some (.int (bI (rdG (nx true (cC (h 4)) n) (cC (h 4)) (h 3) q).1))) (hT (setg h 3 (rdG (nx true (cC (h 4)) n) (cC (h 4)) (h 3) q).2.1) (rdG (nx true (cC (h 4)) n) (cC (h 4)) (h 3) q).2.2) := by
  have e3 : h 3 3 = nI (nG (h 3)) := hI.nG.2
  have l3 := hI.nG.1
  refine ⟨rok_b _, ?_⟩
  refine g_aload_n dX2_readGuest_0 rfl ?_
  refine g_getI dX2_readGuest_1 fl_X2_81 inn3.1 rfl ?_
  rw [hT_g _ _ (by decide), e3]
  refine g_bipush dX2_readGuest_4 bp_6 ?_
  refine g_icmp_lt 11 dX2_readGuest_6 (by decide) (fun c6 => ?_) (fun c6 => ?_)
  · have h8 : nG (h 3) < 6 := (nI_ltI (a := nG (h 3)) (b := 6) (by omega) (by decide)).mp c6
    refine g_aload_n dX2_readGuest_11 rfl ?_
    refine g_callV0v (c_X2_next e0 hn hq.2.1) mi_X2_nextToken mv_X2_nextToken ml_X2_20 dX2_readGuest_12 rfl rfl (by decide) (Nat.le_of_ble_eq_true rfl) (Nat.le_of_ble_eq_true rfl) ?_
    rw [show rdG (nx true (cC (h 4)) n) (cC (h 4)) (h 3) q = rdG1 (nx true (cC (h 4)) n) (cC (h 4)) (h 3) ((nx true (cC (h 4)) n) q.b) from if_pos h8]
    have h1 := ok_N (fl := true) hq
    generalize nx true (cC (h 4)) n q.b = q1 at h1 ⊢
    refine g_aload_n dX2_readGuest_15 rfl ?_
    refine g_bipush dX2_readGuest_16 bp_99 ?_
    refine g_callV1i (c_X2_takeNumber (T := 99) e0 hn h1 (by decide)) mi_X2_takeNumber mv_X2_takeNumber ml_X2_60 dX2_readGuest_18 rfl rfl (by decide) (Nat.le_of_ble_eq_true rfl) (Nat.le_of_ble_eq_true rfl) ?_
    refine g_istore_n dX2_readGuest_21 (by decide) rfl ?_
    refine g_iload_n dX2_readGuest_22 rfl ?_
    refine g_if_ge 28 dX2_readGuest_23 (by decide) (fun c23 => ?_) (fun c23 => ?_)
    · have o1 := tnV_t c23
      rw [show rdG1 (nx true (cC (h 4)) n) (cC (h 4)) (h 3) q1 = rdG2 (nx true (cC (h 4)) n) (cC (h 4)) (h 3) (nI q1.v) (tkN (nx true (cC (h 4)) n) 99 q1) from if_pos o1, tnV_v o1]
      have h2 := ok_tkN (fl := true) (T := 99) h1
      generalize tkN (nx true (cC (h 4)) n) 99 q1 = q2 at h2 ⊢
      refine g_aload_n dX2_readGuest_28 rfl ?_
      refine g_ldcS 1 (by decide) dX2_readGuest_29 rfl rfl ?_
      refine g_callV1i (c_X2_takeWord (i := 1) e0 hn h2 (by decide)) mi_X2_takeWord mv_X2_takeWord ml_X2_66 dX2_readGuest_31 rfl rfl (by decide) (Nat.le_of_ble_eq_true rfl) (Nat.le_of_ble_eq_true rfl) ?_
      refine g_if_eq 46 dX2_readGuest_34 (by decide) (fun c34 => ?_) (fun c34 => ?_)
      · have w1 : isW (cC (h 4)) q2 1 = false := (bI_0 _).mp c34
        have e3b : (hT h q2) 3 3 = nI (nG ((hT h q2) 3)) := hI.nG.2
        rw [tkW_f w1, show rdG2 (nx true (cC (h 4)) n) (cC (h 4)) (h 3) (nI q1.v) q2 = (true, newG2 (h 3) (nI q1.v) 0, q2) from by rw [rdG2, w1]; rfl]
        refine g_iconst dX2_readGuest_46 ic_0 ?_
        refine g_istore_n dX2_readGuest_47 (by decide) rfl ?_
        refine g_iload_n dX2_readGuest_48 rfl ?_
        refine g_if_ge 54 dX2_readGuest_49 (by decide) (fun c49 => ?_) (fun c49 => ?_)
        · refine g_aload_n dX2_readGuest_54 rfl ?_
          refine g_iload_n dX2_readGuest_55 rfl ?_
          refine g_callV1i (c_X0_addGuest inn3 (h := hT h q2) e3b h8) mi_X0_addGuest mv_X0_addGuest ml_X2_86 dX2_readGuest_56 inn3.1 rfl (by decide) (Nat.le_of_ble_eq_true rfl) (Nat.le_of_ble_eq_true rfl) ?_
          rw [hT_g _ _ (by decide), setg_hT _ _ (by decide)]
          refine g_istore dX2_readGuest_59 (by decide) rfl ?_
          refine g_aload_n dX2_readGuest_61 rfl ?_
          refine g_iload dX2_readGuest_62 rfl ?_
          refine g_iconst dX2_readGuest_64 ic_1 ?_
          refine g_iload_n dX2_readGuest_65 rfl ?_
          refine g_callV3v (c_X0_putGuestFact inn3 (w := 1) h8 (by decide)) mi_X0_putGuestFact mv_X0_putGuestFact ml_X2_89 dX2_readGuest_66 inn3.1 rfl (by decide) (Nat.le_of_ble_eq_true rfl) (Nat.le_of_ble_eq_true rfl) ?_
          rw [hT_g _ _ (by decide), setg_s, setg_hT _ _ (by decide), setg_2, newG_for]
          refine g_iconst dX2_readGuest_69 ic_1 ?_
          exact g_ireturn dX2_readGuest_70 rfl rfl
        · exact absurd (show (0 : Int32) ≤ 0 by decide) c49
      · have w1 : isW (cC (h 4)) q2 1 = true := by cases w1 : isW (cC (h 4)) q2 1 with
          | true => rfl
          | false => exact absurd (by rw [w1]; rfl) c34
        rw [tkW_t w1, show rdG2 (nx true (cC (h 4)) n) (cC (h 4)) (h 3) (nI q1.v) q2 = (if okN 11 ((nx true (cC (h 4)) n) q2.b) = true then (true, newG2 (h 3) (nI q1.v) (nI ((nx true (cC (h 4)) n) q2.b).v), tkN (nx true (cC (h 4)) n) 11 ((nx true (cC (h 4)) n) q2.b)) else (false, h 3, (nx true (cC (h 4)) n) q2.b)) from by rw [rdG2, w1]; rfl]
        have h4 := ok_N (fl := true) h2
        generalize nx true (cC (h 4)) n q2.b = q4 at h4 ⊢
        refine g_aload_n dX2_readGuest_37 rfl ?_
        refine g_bipush dX2_readGuest_38 bp_11 ?_
        refine g_callV1i (c_X2_takeNumber (T := 11) e0 hn h4 (by decide)) mi_X2_takeNumber mv_X2_takeNumber ml_X2_60 dX2_readGuest_40 rfl rfl (by decide) (Nat.le_of_ble_eq_true rfl) (Nat.le_of_ble_eq_true rfl) ?_
        refine g_goto 47 dX2_readGuest_43 (by decide) ?_
        refine g_istore_n dX2_readGuest_47 (by decide) rfl ?_
        refine g_iload_n dX2_readGuest_48 rfl ?_
        refine g_if_ge 54 dX2_readGuest_49 (by decide) (fun c49 => ?_) (fun c49 => ?_)
        · have o1 := tnV_t c49
          have e3b : (hT h (tkN (nx true (cC (h 4)) n) 11 q4)) 3 3 = nI (nG ((hT h (tkN (nx true (cC (h 4)) n) 11 q4)) 3)) := hI.nG.2
          rw [if_pos o1, tnV_v o1]
          refine g_aload_n dX2_readGuest_54 rfl ?_
          refine g_iload_n dX2_readGuest_55 rfl ?_
          refine g_callV1i (c_X0_addGuest inn3 (h := hT h (tkN (nx true (cC (h 4)) n) 11 q4)) e3b h8) mi_X0_addGuest mv_X0_addGuest ml_X2_86 dX2_readGuest_56 inn3.1 rfl (by decide) (Nat.le_of_ble_eq_true rfl) (Nat.le_of_ble_eq_true rfl) ?_
          rw [hT_g _ _ (by decide), setg_hT _ _ (by decide)]
          refine g_istore dX2_readGuest_59 (by decide) rfl ?_
          refine g_aload_n dX2_readGuest_61 rfl ?_
          refine g_iload dX2_readGuest_62 rfl ?_
          refine g_iconst dX2_readGuest_64 ic_1 ?_
          refine g_iload_n dX2_readGuest_65 rfl ?_
          refine g_callV3v (c_X0_putGuestFact inn3 (w := 1) h8 (by decide)) mi_X0_putGuestFact mv_X0_putGuestFact ml_X2_89 dX2_readGuest_66 inn3.1 rfl (by decide) (Nat.le_of_ble_eq_true rfl) (Nat.le_of_ble_eq_true rfl) ?_
          rw [hT_g _ _ (by decide), setg_s, setg_hT _ _ (by decide), setg_2, newG_for]
          refine g_iconst dX2_readGuest_69 ic_1 ?_
          exact g_ireturn dX2_readGuest_70 rfl rfl
        · have o1 := tnV_f h4.2.2.1 c49
          rw [if_neg (by rw [o1]; decide), tkN_f o1]
          show Go _ _ _ _ _ _ _ _ _ (some (.int 0)) (hT (setg h 3 (h 3)) q4)
          rw [setg_id]
          refine g_iconst dX2_readGuest_52 ic_0 ?_
          exact g_ireturn dX2_readGuest_53 rfl rfl
    · have o1 := tnV_f h1.2.2.1 c23
      have eR : rdG1 (nx true (cC (h 4)) n) (cC (h 4)) (h 3) q1 = (false, h 3, q1) := by rw [rdG1, o1]; rfl
      rw [eR]
      show Go _ _ _ _ _ _ _ _ _ (some (.int 0)) (hT (setg h 3 (h 3)) q1)
      rw [setg_id]
      rw [tkN_f o1]
      refine g_iconst dX2_readGuest_26 ic_0 ?_
      exact g_ireturn dX2_readGuest_27 rfl rfl
  · have n8 : ¬ nG (h 3) < 6 := fun q => c6 (nI_lt q (by decide))
    have eR : rdG (nx true (cC (h 4)) n) (cC (h 4)) (h 3) q = (false, h 3, q) := by rw [rdG, if_neg n8]
    rw [eR]
    show Go _ _ _ _ _ _ _ _ _ (some (.int 0)) (hT (setg h 3 (h 3)) q)
    rw [setg_id]
    refine g_iconst dX2_readGuest_9 ic_0 ?_
    exact g_ireturn dX2_readGuest_10 rfl rfl

set_option maxRecDepth 100000 in
set_option maxHeartbeats 4000000 in
theorem c_X2_readMeal {X : Sc} {h : Hp} {n : Nat} (e0 : h 4 0 = nI n) (hn : n ≤ 120) {q : Tk} (hq : TkOk (cC (h 4)) n q) : Ct X yX2_readMeal cX2_readMeal 5 (some .boolean) 3 [.ref 16, .ref 11] (hT h q) (some (.int (bI (rdE (nx true (cC (h 4)) n) (h 3) q).1))) (hT (setg h 3 (rdE (nx true (cC (h 4)) n) (h 3) q).2.1) (rdE (nx true (cC (h 4)) n) (h 3) q).2.2) := by
  refine ⟨rok_b _, ?_⟩
  refine g_aload_n dX2_readMeal_0 rfl ?_
  refine g_callV0v (c_X2_next e0 hn hq.2.1) mi_X2_nextToken mv_X2_nextToken ml_X2_20 dX2_readMeal_1 rfl rfl (by decide) (Nat.le_of_ble_eq_true rfl) (Nat.le_of_ble_eq_true rfl) ?_
  rw [show rdE (nx true (cC (h 4)) n) (h 3) q = rdM1 (nx true (cC (h 4)) n) (h 3) ((nx true (cC (h 4)) n) q.b) from rfl]
  have h1 := ok_N (fl := true) hq
  generalize nx true (cC (h 4)) n q.b = q1 at h1 ⊢
  refine g_aload_n dX2_readMeal_4 rfl ?_
  refine g_iconst dX2_readMeal_5 ic_5 ?_
  refine g_callV1i (c_X2_takeNumber (T := 5) e0 hn h1 (by decide)) mi_X2_takeNumber mv_X2_takeNumber ml_X2_60 dX2_readMeal_6 rfl rfl (by decide) (Nat.le_of_ble_eq_true rfl) (Nat.le_of_ble_eq_true rfl) ?_
  refine g_istore_n dX2_readMeal_9 (by decide) rfl ?_
  refine g_iload_n dX2_readMeal_10 rfl ?_
  refine g_if_ge 18 dX2_readMeal_11 (by decide) (fun c11 => ?_) (fun c11 => ?_)
  · have o1 := tnV_t c11
    have v1 := okN_le o1
    rw [show rdM1 (nx true (cC (h 4)) n) (h 3) q1 = rdM2 (nx true (cC (h 4)) n) (h 3) q1.v (tkN (nx true (cC (h 4)) n) 5 q1) from if_pos o1, tnV_v o1]
    have h2 := ok_tkN (fl := true) (T := 5) h1
    generalize tkN (nx true (cC (h 4)) n) 5 q1 = q2 at h2 ⊢
    refine g_aload_n dX2_readMeal_18 rfl ?_
    refine g_iconst dX2_readMeal_19 ic_5 ?_
    refine g_callV1i (c_X2_takeNumber (T := 5) e0 hn h2 (by decide)) mi_X2_takeNumber mv_X2_takeNumber ml_X2_60 dX2_readMeal_20 rfl rfl (by decide) (Nat.le_of_ble_eq_true rfl) (Nat.le_of_ble_eq_true rfl) ?_
    refine g_istore_n dX2_readMeal_23 (by decide) rfl ?_
    refine g_iload_n dX2_readMeal_24 rfl ?_
    refine g_if_ge 32 dX2_readMeal_25 (by decide) (fun c25 => ?_) (fun c25 => ?_)
    · have o2 := tnV_t c25
      rw [show rdM2 (nx true (cC (h 4)) n) (h 3) q1.v q2 = rdM3 (nx true (cC (h 4)) n) (h 3) q1.v q2.v (tkN (nx true (cC (h 4)) n) 5 q2) from if_pos o2, tnV_v o2]
      have h3 := ok_tkN (fl := true) (T := 5) h2
      generalize tkN (nx true (cC (h 4)) n) 5 q2 = q3 at h3 ⊢
      refine g_aload_n dX2_readMeal_32 rfl ?_
      refine g_bipush dX2_readMeal_33 bp_7 ?_
      refine g_callV1i (c_X2_takeNumber (T := 7) e0 hn h3 (by decide)) mi_X2_takeNumber mv_X2_takeNumber ml_X2_60 dX2_readMeal_35 rfl rfl (by decide) (Nat.le_of_ble_eq_true rfl) (Nat.le_of_ble_eq_true rfl) ?_
      refine g_istore dX2_readMeal_38 (by decide) rfl ?_
      refine g_iload dX2_readMeal_40 rfl ?_
      refine g_if_ge 47 dX2_readMeal_42 (by decide) (fun c42 => ?_) (fun c42 => ?_)
      · have o3 := tnV_t c42
        rw [show rdM3 (nx true (cC (h 4)) n) (h 3) q1.v q2.v q3 = (true, upd (h 3) (4 + q1.v) (10 * nI q2.v + nI q3.v), tkN (nx true (cC (h 4)) n) 7 q3) from if_pos o3, tnV_v o3]
        refine g_aload_n dX2_readMeal_47 rfl ?_
        refine g_iload_n dX2_readMeal_48 rfl ?_
        refine g_iload_n dX2_readMeal_49 rfl ?_
        refine g_iload dX2_readMeal_50 rfl ?_
        refine g_callV3v (c_X0_planMeal inn3 (i := q1.v) (by omega)) mi_X0_planMeal mv_X0_planMeal ml_X2_92 dX2_readMeal_52 inn3.1 rfl (by decide) (Nat.le_of_ble_eq_true rfl) (Nat.le_of_ble_eq_true rfl) ?_
        rw [hT_g _ _ (by decide), setg_hT _ _ (by decide)]
        refine g_iconst dX2_readMeal_55 ic_1 ?_
        exact g_ireturn dX2_readMeal_56 rfl rfl
      · have o3 := tnV_f h3.2.2.1 c42
        have eR : rdM3 (nx true (cC (h 4)) n) (h 3) q1.v q2.v q3 = (false, h 3, q3) := by rw [rdM3, o3]; rfl
        rw [eR]
        show Go _ _ _ _ _ _ _ _ _ (some (.int 0)) (hT (setg h 3 (h 3)) q3)
        rw [setg_id]
        rw [tkN_f o3]
        refine g_iconst dX2_readMeal_45 ic_0 ?_
        exact g_ireturn dX2_readMeal_46 rfl rfl
    · have o2 := tnV_f h2.2.2.1 c25
      have eR : rdM2 (nx true (cC (h 4)) n) (h 3) q1.v q2 = (false, h 3, q2) := by rw [rdM2, o2]; rfl
      rw [eR]
      show Go _ _ _ _ _ _ _ _ _ (some (.int 0)) (hT (setg h 3 (h 3)) q2)
      rw [setg_id]
      rw [tkN_f o2]
      refine g_iconst dX2_readMeal_28 ic_m1 ?_
      refine g_goto 38 dX2_readMeal_29 (by decide) ?_
      refine g_istore dX2_readMeal_38 (by decide) rfl ?_
      refine g_iload dX2_readMeal_40 rfl ?_
      refine g_if_ge 47 dX2_readMeal_42 (by decide) (fun c42 => ?_) (fun c42 => ?_)
      · exact absurd c42 (by decide)
      · refine g_iconst dX2_readMeal_45 ic_0 ?_
        exact g_ireturn dX2_readMeal_46 rfl rfl
  · have o1 := tnV_f h1.2.2.1 c11
    have eR : rdM1 (nx true (cC (h 4)) n) (h 3) q1 = (false, h 3, q1) := by rw [rdM1, o1]; rfl
    rw [eR]
    show Go _ _ _ _ _ _ _ _ _ (some (.int 0)) (hT (setg h 3 (h 3)) q1)
    rw [setg_id]
    rw [tkN_f o1]
    refine g_iconst dX2_readMeal_14 ic_m1 ?_
    refine g_goto 23 dX2_readMeal_15 (by decide) ?_
    refine g_istore_n dX2_readMeal_23 (by decide) rfl ?_
    refine g_iload_n dX2_readMeal_24 rfl ?_
    refine g_if_ge 32 dX2_readMeal_25 (by decide) (fun c25 => ?_) (fun c25 => ?_)
    · exact absurd c25 (by decide)
    · refine g_iconst dX2_readMeal_28 ic_m1 ?_
      refine g_goto 38 dX2_readMeal_29 (by decide) ?_
      refine g_istore dX2_readMeal_38 (by decide) rfl ?_
      refine g_iload dX2_readMeal_40 rfl ?_
      refine g_if_ge 47 dX2_readMeal_42 (by decide) (fun c42 => ?_) (fun c42 => ?_)
      · exact absurd c42 (by decide)
      · refine g_iconst dX2_readMeal_45 ic_0 ?_
        exact g_ireturn dX2_readMeal_46 rfl rfl

set_option maxRecDepth 100000 in
set_option maxHeartbeats 4000000 in
theorem c_X2_wordOf {X : Sc} {h : Hp} {k : Nat} (hk : k < 7) : Ct X yX2_wordOf cX2_wordOf 1 (some (.object "java/lang/String")) 0 [.int (nI k)] h (some (.ref (110 + kdS k))) h := by
  refine ⟨trivial, ?_⟩
  refine g_iload_n dX2_wordOf_0 rfl ?_
  refine g_tswc (1) (1) (39) 40 dX2_wordOf_1 (by decide) (by decide) (by decide) rfl (by decide) (fun c1 => ?_) (fun c1_0 n1_0 => ?_)
  · refine g_ldcS 3 (by decide) dX2_wordOf_40 rfl rfl ?_
    exact g_areturn dX2_wordOf_42 (by have z : k = 1 := (nI_eq (a := k) (b := 1) (by omega) (by decide)).mp c1; rw [z]; rfl) rfl
  refine g_tswc (2) (2) (42) 43 dX2_wordOf_1 (by decide) (by decide) (by decide) rfl (by decide) (fun c1 => ?_) (fun c1_1 n1_1 => ?_)
  · refine g_ldcS 4 (by decide) dX2_wordOf_43 rfl rfl ?_
    exact g_areturn dX2_wordOf_45 (by have z : k = 2 := (nI_eq (a := k) (b := 2) (by omega) (by decide)).mp c1; rw [z]; rfl) rfl
  refine g_tswc (3) (3) (45) 46 dX2_wordOf_1 (by decide) (by decide) (by decide) rfl (by decide) (fun c1 => ?_) (fun c1_2 n1_2 => ?_)
  · refine g_ldcS 5 (by decide) dX2_wordOf_46 rfl rfl ?_
    exact g_areturn dX2_wordOf_48 (by have z : k = 3 := (nI_eq (a := k) (b := 3) (by omega) (by decide)).mp c1; rw [z]; rfl) rfl
  refine g_tswc (4) (4) (48) 49 dX2_wordOf_1 (by decide) (by decide) (by decide) rfl (by decide) (fun c1 => ?_) (fun c1_3 n1_3 => ?_)
  · refine g_ldcS 6 (by decide) dX2_wordOf_49 rfl rfl ?_
    exact g_areturn dX2_wordOf_51 (by have z : k = 4 := (nI_eq (a := k) (b := 4) (by omega) (by decide)).mp c1; rw [z]; rfl) rfl
  refine g_tswc (5) (5) (51) 52 dX2_wordOf_1 (by decide) (by decide) (by decide) rfl (by decide) (fun c1 => ?_) (fun c1_4 n1_4 => ?_)
  · refine g_ldcS 7 (by decide) dX2_wordOf_52 rfl rfl ?_
    exact g_areturn dX2_wordOf_54 (by have z : k = 5 := (nI_eq (a := k) (b := 5) (by omega) (by decide)).mp c1; rw [z]; rfl) rfl
  refine g_tswc (6) (6) (54) 55 dX2_wordOf_1 (by decide) (by decide) (by decide) rfl (by decide) (fun c1 => ?_) (fun c1_5 n1_5 => ?_)
  · refine g_ldcS 8 (by decide) dX2_wordOf_55 rfl rfl ?_
    exact g_areturn dX2_wordOf_57 (by have z : k = 6 := (nI_eq (a := k) (b := 6) (by omega) (by decide)).mp c1; rw [z]; rfl) rfl
  refine g_tswd 58 dX2_wordOf_1 (by omega) (by decide) ?_
  have z := nI_toInt (n := k) (by omega)
  have z2 : k = 0 := by omega
  refine g_ldcS 9 (by decide) dX2_wordOf_58 rfl rfl ?_
  exact g_areturn dX2_wordOf_60 (by rw [z2]; rfl) rfl

theorem kdS_lt {k : Nat} (h : k < 7) : kdS k < 13 := by unfold kdS; split <;> omega

set_option maxRecDepth 100000 in
set_option maxHeartbeats 4000000 in
theorem l_X2_readItem {X : Sc} {h : Hp} {n : Nat} (e0 : h 4 0 = nI n) (hn : n ≤ 120) {q : Tk} (hq : TkOk (cC (h 4)) n q) (hI : In (h 3)) : ∀ k, k ≤ 7 → Go X RX2 cX2_readItem 3 7 32 [.ref 16, .ref 11, .int (nI k)] [] (hT h q) (some (.int (bI (rdK (nx true (cC (h 4)) n) (cC (h 4)) (h 3) q (7 - k) k).1))) (hT (setg h 3 (rdK (nx true (cC (h 4)) n) (cC (h 4)) (h 3) q (7 - k) k).2.1) (rdK (nx true (cC (h 4)) n) (cC (h 4)) (h 3) q (7 - k) k).2.2) := by
  refine loop_up (7) ?_ ?_
  · refine g_iload_n dX2_readItem_32 rfl ?_
    refine g_bipush dX2_readItem_33 bp_7 ?_
    refine g_icmp_ge 62 dX2_readItem_35 (by decide) (fun c35 => ?_) (fun c35 => ?_)
    · refine g_iconst dX2_readItem_62 ic_0 ?_
      exact g_ireturn dX2_readItem_63 rfl (by show hT h q = hT (setg h 3 (h 3)) q; rw [setg_id])
    · exact (lp_yes (rfl) (by decide) c35).elim
  · intro k hk ih
    have eK : rdK (nx true (cC (h 4)) n) (cC (h 4)) (h 3) q (7 - k) k = (if isW (cC (h 4)) q (kdS k) = true then rdD (nx true (cC (h 4)) n) (cC (h 4)) (h 3) (nI k) q else rdK (nx true (cC (h 4)) n) (cC (h 4)) (h 3) q (7 - (k + 1)) (k + 1)) := by rw [show 7 - k = 7 - (k + 1) + 1 by omega, rdK]
    rw [eK]
    refine g_iload_n dX2_readItem_32 rfl ?_
    refine g_bipush dX2_readItem_33 bp_7 ?_
    refine g_icmp_ge 62 dX2_readItem_35 (by decide) (fun c35 => ?_) (fun c35 => ?_)
    · exact (lp_no (rfl) (by decide) hk c35).elim
    · refine g_aload_n dX2_readItem_38 rfl ?_
      refine g_iload_n dX2_readItem_39 rfl ?_
      refine g_callS1i (c_X2_wordOf hk) mi_X2_wordOf ms_X2_wordOf ml_X2_49 dX2_readItem_40 (by decide) (Nat.le_of_ble_eq_true rfl) (Nat.le_of_ble_eq_true rfl) ?_
      refine g_callV1i (c_X2_isWord (i := kdS k) (kdS_lt hk) hq.1 (by have := hq.2.1; omega) hq.2.2.2) mi_X2_isWord mv_X2_isWord ml_X2_35 dX2_readItem_43 rfl rfl (by decide) (Nat.le_of_ble_eq_true rfl) (Nat.le_of_ble_eq_true rfl) ?_
      refine g_if_eq 56 dX2_readItem_46 (by decide) (fun c46 => ?_) (fun c46 => ?_)
      · have w1 : isW (cC (h 4)) q (kdS k) = false := (bI_0 _).mp c46
        rw [if_neg (by rw [w1]; decide)]
        refine g_iinc dX2_readItem_56 rfl (ii_n _) (by decide) rfl ?_
        refine g_goto 32 dX2_readItem_59 (by decide) ?_
        exact ih
      · have w1 : isW (cC (h 4)) q (kdS k) = true := by cases w1 : isW (cC (h 4)) q (kdS k) with
          | true => rfl
          | false => exact absurd (by rw [w1]; rfl) c46
        rw [if_pos w1]
        refine g_aload_n dX2_readItem_49 rfl ?_
        refine g_aload_n dX2_readItem_50 rfl ?_
        refine g_iload_n dX2_readItem_51 rfl ?_
        refine g_callV2i (c_X2_readDish e0 hn hq hI) mi_X2_readDish mv_X2_readDish ml_X2_53 dX2_readItem_52 rfl rfl (by decide) (Nat.le_of_ble_eq_true rfl) (Nat.le_of_ble_eq_true rfl) ?_
        exact g_ireturn dX2_readItem_55 rfl rfl

set_option maxRecDepth 100000 in
set_option maxHeartbeats 4000000 in
theorem c_X2_readItem {X : Sc} {h : Hp} {n : Nat} (e0 : h 4 0 = nI n) (hn : n ≤ 120) {q : Tk} (hq : TkOk (cC (h 4)) n q) (hI : In (h 3)) : Ct X yX2_readItem cX2_readItem 3 (some .boolean) 7 [.ref 16, .ref 11] (hT h q) (some (.int (bI (rdI (nx true (cC (h 4)) n) (cC (h 4)) (h 3) q).1))) (hT (setg h 3 (rdI (nx true (cC (h 4)) n) (cC (h 4)) (h 3) q).2.1) (rdI (nx true (cC (h 4)) n) (cC (h 4)) (h 3) q).2.2) := by
  refine ⟨rok_b _, ?_⟩
  refine g_aload_n dX2_readItem_0 rfl ?_
  refine g_ldcS 0 (by decide) dX2_readItem_1 rfl rfl ?_
  refine g_callV1i (c_X2_isWord (i := 0) (by decide) hq.1 (by have := hq.2.1; omega) hq.2.2.2) mi_X2_isWord mv_X2_isWord ml_X2_35 dX2_readItem_3 rfl rfl (by decide) (Nat.le_of_ble_eq_true rfl) (Nat.le_of_ble_eq_true rfl) ?_
  refine g_if_eq 15 dX2_readItem_6 (by decide) (fun c6 => ?_) (fun c6 => ?_)
  · have w1 : isW (cC (h 4)) q 0 = false := (bI_0 _).mp c6
    refine g_aload_n dX2_readItem_15 rfl ?_
    refine g_ldcS 2 (by decide) dX2_readItem_16 rfl rfl ?_
    refine g_callV1i (c_X2_isWord (i := 2) (by decide) hq.1 (by have := hq.2.1; omega) hq.2.2.2) mi_X2_isWord mv_X2_isWord ml_X2_35 dX2_readItem_18 rfl rfl (by decide) (Nat.le_of_ble_eq_true rfl) (Nat.le_of_ble_eq_true rfl) ?_
    refine g_if_eq 30 dX2_readItem_21 (by decide) (fun c21 => ?_) (fun c21 => ?_)
    · have w2 : isW (cC (h 4)) q 2 = false := (bI_0 _).mp c21
      rw [show rdI (nx true (cC (h 4)) n) (cC (h 4)) (h 3) q = rdK (nx true (cC (h 4)) n) (cC (h 4)) (h 3) q 7 0 from by unfold rdI; rw [if_neg (by rw [w1]; decide), if_neg (by rw [w2]; decide)]]
      refine g_iconst dX2_readItem_30 ic_0 ?_
      refine g_istore_n dX2_readItem_31 (by decide) rfl ?_
      have K := l_X2_readItem (X := X) e0 hn hq hI 0 (by decide)
      rw [Nat.sub_zero] at K
      exact K
    · have w2 : isW (cC (h 4)) q 2 = true := by cases w1 : isW (cC (h 4)) q 2 with
        | true => rfl
        | false => exact absurd (by rw [w1]; rfl) c21
      rw [show rdI (nx true (cC (h 4)) n) (cC (h 4)) (h 3) q = rdE (nx true (cC (h 4)) n) (h 3) q from by unfold rdI; rw [if_neg (by rw [w1]; decide), if_pos w2]]
      refine g_aload_n dX2_readItem_24 rfl ?_
      refine g_aload_n dX2_readItem_25 rfl ?_
      refine g_callV1i ((c_X2_readMeal e0 hn hq).up (by decide : 3 ≤ 6)) mi_X2_readMeal mv_X2_readMeal ml_X2_44 dX2_readItem_26 rfl rfl (by decide) (Nat.le_of_ble_eq_true rfl) (Nat.le_of_ble_eq_true rfl) ?_
      exact g_ireturn dX2_readItem_29 rfl rfl
  · have w1 : isW (cC (h 4)) q 0 = true := by cases w1 : isW (cC (h 4)) q 0 with
      | true => rfl
      | false => exact absurd (by rw [w1]; rfl) c6
    rw [show rdI (nx true (cC (h 4)) n) (cC (h 4)) (h 3) q = rdG (nx true (cC (h 4)) n) (cC (h 4)) (h 3) q from if_pos w1]
    refine g_aload_n dX2_readItem_9 rfl ?_
    refine g_aload_n dX2_readItem_10 rfl ?_
    refine g_callV1i (c_X2_readGuest e0 hn hq hI) mi_X2_readGuest mv_X2_readGuest ml_X2_39 dX2_readItem_11 rfl rfl (by decide) (Nat.le_of_ble_eq_true rfl) (Nat.le_of_ble_eq_true rfl) ?_
    exact g_ireturn dX2_readItem_14 rfl rfl

set_option maxRecDepth 100000 in
set_option maxHeartbeats 4000000 in
theorem c_X2_item {X : Sc} {h : Hp} {n : Nat} (e0 : h 4 0 = nI n) (hn : n ≤ 120) {q : Tk} (hq : TkOk (cC (h 4)) n q) {m : Rw} (hI : In m) : Ct X yX2_readItem cX2_readItem 3 (some .boolean) 7 [.ref 16, .ref 11] (hT (setg h 3 m) q) (some (.int (bI (rdI (nx true (cC (h 4)) n) (cC (h 4)) m q).1))) (hT (setg h 3 (rdI (nx true (cC (h 4)) n) (cC (h 4)) m q).2.1) (rdI (nx true (cC (h 4)) n) (cC (h 4)) m q).2.2) := by
  have k := c_X2_readItem (X := X) (h := setg h 3 m) (n := n) e0 hn (q := q) hq (by rw [setg_s]; exact hI)
  rw [setg_n h m (show 4 ≠ 3 by decide), setg_s, setg_2] at k
  exact k
theorem c_X2_nextI {X : Sc} {h : Hp} {n : Nat} (e0 : h 4 0 = nI n) (hn : n ≤ 120) {q : Tk} (hb : q.b ≤ n) {m : Rw} : Ct X yX2_nextToken cX2_nextToken 1 none 1 [.ref 16] (hT (setg h 3 m) q) none (hT (setg h 3 m) ((nx true (cC (h 4)) n) q.b)) := by
  have k := c_X2_next (X := X) (h := setg h 3 m) (n := n) e0 hn (q := q) hb
  rw [setg_n h m (show 4 ≠ 3 by decide)] at k
  exact k

set_option maxRecDepth 100000 in
set_option maxHeartbeats 4000000 in
theorem l_X2_readText {X : Sc} {h : Hp} {n : Nat} (e0 : h 4 0 = nI n) (hn : n ≤ 120) : ∀ f it (m : Rw) (q : Tk), it + f = 121 → In m → TkOk (cC (h 4)) n q → Go X RX2 cX2_readText 3 8 11 [.ref 16, .ref 11, .int (nI it)] [] (hT (setg h 3 m) q) (some (.int (rdT (nx true (cC (h 4)) n) (cC (h 4)) f it m q).1)) (hT (setg h 3 (rdT (nx true (cC (h 4)) n) (cC (h 4)) f it m q).2.1) (rdT (nx true (cC (h 4)) n) (cC (h 4)) f it m q).2.2) := by
  intro f
  induction f with
  | zero =>
    intro it m q hit hI hq
    refine g_iload_n dX2_readText_11 rfl ?_
    refine g_bipush dX2_readText_12 bp_120 ?_
    refine g_icmp_gt 58 dX2_readText_14 (by decide) (fun c14 => ?_) (fun c14 => ?_)
    · refine g_iconst dX2_readText_58 ic_m1 ?_
      refine g_aload_n dX2_readText_59 rfl ?_
      refine g_getI dX2_readText_60 fl_X2_30 rfl rfl ?_
      rw [show hT (setg h 3 m) q 4 2 = nI q.s from rfl]
      refine g_isub dX2_readText_63 ?_
      exact g_ireturn dX2_readText_64 rfl rfl
    · exact absurd (nI_lt (a := 120) (by omega) (by omega)) c14
  | succ f ih =>
    intro it m q hit hI hq
    have hR := rdI_ok (fl := true) hI hq
    rw [rdT]
    refine g_iload_n dX2_readText_11 rfl ?_
    refine g_bipush dX2_readText_12 bp_120 ?_
    refine g_icmp_gt 58 dX2_readText_14 (by decide) (fun c14 => ?_) (fun c14 => ?_)
    · exact absurd c14 (nI_nlt (a := 120) (by omega) (by omega))
    · refine g_aload_n dX2_readText_17 rfl ?_
      refine g_aload_n dX2_readText_18 rfl ?_
      refine g_callV1i (c_X2_item e0 hn hq hI) mi_X2_readItem mv_X2_readItem ml_X2_23 dX2_readText_19 rfl rfl (by decide) (Nat.le_of_ble_eq_true rfl) (Nat.le_of_ble_eq_true rfl) ?_
      generalize rdI (nx true (cC (h 4)) n) (cC (h 4)) m q = Q at hR ⊢
      refine g_if_ne 28 dX2_readText_22 (by decide) (fun c22 => ?_) (fun c22 => ?_)
      · have b1 : Q.1 = true := by cases b1 : Q.1 with
          | true => rfl
          | false => exact absurd (by rw [b1]; rfl) c22
        rw [if_pos b1]
        refine g_aload_n dX2_readText_28 rfl ?_
        refine g_getI dX2_readText_29 fl_X2_27 rfl rfl ?_
        rw [show hT (setg h 3 Q.2.1) Q.2.2 4 1 = nI Q.2.2.k from rfl]
        refine g_if_ne 37 dX2_readText_32 (by decide) (fun c32 => ?_) (fun c32 => ?_)
        · have z : ¬ Q.2.2.k = 0 := fun z => c32 (by rw [z]; rfl)
          rw [if_neg z]
          refine g_aload_n dX2_readText_37 rfl ?_
          refine g_getI dX2_readText_38 fl_X2_27 rfl rfl ?_
          rw [show hT (setg h 3 Q.2.1) Q.2.2 4 1 = nI Q.2.2.k from rfl]
          refine g_iconst dX2_readText_41 ic_3 ?_
          refine g_icmp_eq 48 dX2_readText_42 (by decide) (fun c42 => ?_) (fun c42 => ?_)
          · have z3 : Q.2.2.k = 3 := (nI_eq (a := Q.2.2.k) (b := 3) (by have := hR.2.2.2.2; omega) (by decide)).mp c42
            rw [if_pos z3]
            refine g_aload_n dX2_readText_48 rfl ?_
            refine g_callV0v (c_X2_nextI e0 hn hR.2.2.1) mi_X2_nextToken mv_X2_nextToken ml_X2_20 dX2_readText_49 rfl rfl (by decide) (Nat.le_of_ble_eq_true rfl) (Nat.le_of_ble_eq_true rfl) ?_
            refine g_iinc dX2_readText_52 rfl (ii_n _) (by decide) rfl ?_
            refine g_goto 11 dX2_readText_55 (by decide) ?_
            exact ih (it + 1) Q.2.1 ((nx true (cC (h 4)) n) Q.2.2.b) (by omega) hR.1 (ok_N hR.2)
          · have z3 : ¬ Q.2.2.k = 3 := fun z => c42 (by rw [z]; rfl)
            rw [if_neg z3]
            refine g_goto 58 dX2_readText_45 (by decide) ?_
            refine g_iconst dX2_readText_58 ic_m1 ?_
            refine g_aload_n dX2_readText_59 rfl ?_
            refine g_getI dX2_readText_60 fl_X2_30 rfl rfl ?_
            rw [show hT (setg h 3 Q.2.1) Q.2.2 4 2 = nI Q.2.2.s from rfl]
            refine g_isub dX2_readText_63 ?_
            exact g_ireturn dX2_readText_64 rfl rfl
        · have z : Q.2.2.k = 0 := (nI_eq (a := Q.2.2.k) (b := 0) (by have := hR.2.2.2.2; omega) (by decide)).mp c32
          rw [if_pos z]
          refine g_iload_n dX2_readText_35 rfl ?_
          exact g_ireturn dX2_readText_36 rfl rfl
      · have b1 : Q.1 = false := (bI_0 _).mp c22
        rw [if_neg (by rw [b1]; decide)]
        refine g_goto 58 dX2_readText_25 (by decide) ?_
        refine g_iconst dX2_readText_58 ic_m1 ?_
        refine g_aload_n dX2_readText_59 rfl ?_
        refine g_getI dX2_readText_60 fl_X2_30 rfl rfl ?_
        rw [show hT (setg h 3 Q.2.1) Q.2.2 4 2 = nI Q.2.2.s from rfl]
        refine g_isub dX2_readText_63 ?_
        exact g_ireturn dX2_readText_64 rfl rfl

set_option maxRecDepth 100000 in
set_option maxHeartbeats 4000000 in
theorem c_X2_readText {X : Sc} {h : Hp} {n : Nat} (e0 : h 4 0 = nI n) (hn : n ≤ 120) (hI : In (h 3)) : Ct X yX2_readText cX2_readText 3 (some .int) 8 [.ref 16, .ref 11] h (some (.int (rdT (nx true (cC (h 4)) n) (cC (h 4)) 120 1 (h 3) ((nx true (cC (h 4)) n) 0)).1)) (hT (setg h 3 (rdT (nx true (cC (h 4)) n) (cC (h 4)) 120 1 (h 3) ((nx true (cC (h 4)) n) 0)).2.1) (rdT (nx true (cC (h 4)) n) (cC (h 4)) 120 1 (h 3) ((nx true (cC (h 4)) n) 0)).2.2) := by
  refine ⟨rfl, ?_⟩
  refine g_aload_n dX2_readText_0 rfl ?_
  refine g_iconst dX2_readText_1 ic_0 ?_
  refine g_putI dX2_readText_2 fl_X2_17 fp_2_4 rfl rfl ?_
  have k0 := c_X2_nextToken (X := X) (h := up h 4 3 0) (n := n) (p := 0) e0 hn rfl (Nat.zero_le _)
  have ec : cC (up h 4 3 0 4) = cC (h 4) := by
    funext j
    show chC (upd (h 4) 3 0 (10 + j)) = _
    rw [upd_n _ _ (by omega)]
    rfl
  have eh : ∀ q, hT (up h 4 3 0) q = hT h q := fun q => by
    have z := hT_hT h (0, 0, 0, 0) q
    unfold hT
    rw [← hW_self h, up_hW3, hW_hW, hW_hW]
  rw [eh, ec] at k0
  refine g_aload_n dX2_readText_5 rfl ?_
  refine g_callV0v (k0) mi_X2_nextToken mv_X2_nextToken ml_X2_20 dX2_readText_6 rfl rfl (by decide) (Nat.le_of_ble_eq_true rfl) (Nat.le_of_ble_eq_true rfl) ?_
  have ed : hT h ((nx true (cC (h 4)) n) 0) = hT (setg h 3 (h 3)) ((nx true (cC (h 4)) n) 0) := by rw [setg_id]
  rw [ed]
  refine g_iconst dX2_readText_9 ic_1 ?_
  refine g_istore_n dX2_readText_10 (by decide) rfl ?_
  exact l_X2_readText e0 hn 120 1 (h 3) _ rfl hI (nx_ok true _ (Nat.zero_le _)).1

