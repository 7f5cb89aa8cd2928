theorem cM_hX (h : Hp) (q : Tk) (b : Bool) : cM (hX h q b 14) = cM (h 14) := by
  funext j
  show chM (hV h _ _ _ _ _ 14 (10 + j)) = _
  rw [hV_b]
  rfl
theorem hX_g (h : Hp) (q : Tk) (b : Bool) {g : Nat} (n : g ≠ 14) : hX h q b g = h g := hV_g _ _ _ _ _ _ n
theorem hX_hX (h : Hp) (q q2 : Tk) (b b2 : Bool) : hX (hX h q b) q2 b2 = hX h q2 b2 := by
  show hV (hX h q b) (nI (cod (cM (hX h q b 14)) q2)) _ _ _ _ = _
  rw [cM_hX]
  exact hV_hV _ _ _ _ _ _ _ _ _ _ _
theorem setg_hX (h : Hp) (q : Tk) (b : Bool) {g : Nat} (n : g ≠ 14) (m : Rw) : setg (hX h q b) g m = hX (setg h g m) q b := by
  show setg (hV h (nI (cod (cM (h 14)) q)) (nI q.s) (nI q.b) (nI q.v) (bI b)) g m = hV (setg h g m) (nI (cod (cM (setg h g m 14)) q)) (nI q.s) (nI q.b) (nI q.v) (bI b)
  rw [setg_hV _ _ _ _ _ _ n, setg_n h m (fun z => n z.symm)]
theorem up_hX5 (h : Hp) (q : Tk) (b b2 : Bool) : up (hX h q b) 14 5 (bI b2) = hX h q b2 := up_hV5 _ _ _ _ _ _ _
theorem up_hX5t (h : Hp) (q : Tk) (b : Bool) : up (hX h q b) 14 5 1 = hX h q true := up_hV5 _ _ _ _ _ _ _
theorem up_hX5f (h : Hp) (q : Tk) (b : Bool) : up (hX h q b) 14 5 0 = hX h q false := up_hV5 _ _ _ _ _ _ _
theorem hX_1 (h : Hp) (q : Tk) (b : Bool) : hX h q b 14 1 = nI (cod (cM (h 14)) q) := rfl
theorem hX_2 (h : Hp) (q : Tk) (b : Bool) : hX h q b 14 2 = nI q.s := rfl
theorem hX_4 (h : Hp) (q : Tk) (b : Bool) : hX h q b 14 4 = nI q.v := rfl
theorem hX_5 (h : Hp) (q : Tk) (b : Bool) : hX h q b 14 5 = bI b := rfl
theorem c_reads {X : Sc} {h : Hp} {n : Nat} (e0 : h 14 0 = nI n) (hn : n ≤ 120) {q : Tk} (hb : q.b ≤ n) {b : Bool} : Ct X yX4_reads cX4_reads 1 none 2 [.ref 28] (hX h q b) none (hX h ((nx false (cM (h 14)) n) q.b) b) := by
  have k := c_X4_reads (X := X) (h := hX h q b) (n := n) e0 hn (p := q.b) rfl hb b rfl
  rw [hX_hX, cM_hX] at k
  exact k

set_option maxRecDepth 100000 in
set_option maxHeartbeats 4000000 in
theorem c_takes_b {X : Sc} {h : Hp} {q : Tk} {x : Int32} : Ct X yX4_takes cX4_takes 2 (some .boolean) 3 [.ref 28, .int x] (hX h q true) (some (.int 0)) (hX h q true) := by
  refine ⟨rfl, ?_⟩
  refine g_aload_n dX4_takes_0 rfl ?_
  refine g_getI dX4_takes_1 fl_X4_212 rfl rfl ?_
  rw [hX_5]
  refine g_if_ne 15 dX4_takes_4 (by decide) (fun c4 => ?_) (fun c4 => ?_)
  · refine g_iconst dX4_takes_15 ic_0 ?_
    exact g_ireturn dX4_takes_16 rfl rfl
  · exact absurd c4 (by decide)

set_option maxRecDepth 100000 in
set_option maxHeartbeats 4000000 in
theorem c_takes_f {X : Sc} {h : Hp} {q : Tk} {w : Nat} (hw : w < 24) (hc : ¬ cod (cM (h 14)) q = w) : Ct X yX4_takes cX4_takes 2 (some .boolean) 3 [.ref 28, .int (nI w)] (hX h q false) (some (.int 0)) (hX h q false) := by
  refine ⟨rfl, ?_⟩
  refine g_aload_n dX4_takes_0 rfl ?_
  refine g_getI dX4_takes_1 fl_X4_212 rfl rfl ?_
  rw [hX_5]
  refine g_if_ne 15 dX4_takes_4 (by decide) (fun c4 => ?_) (fun c4 => ?_)
  · exact absurd rfl c4
  · refine g_aload_n dX4_takes_7 rfl ?_
    refine g_getI dX4_takes_8 fl_X4_206 rfl rfl ?_
    rw [hX_1]
    refine g_iload_n dX4_takes_11 rfl ?_
    refine g_icmp_eq 17 dX4_takes_12 (by decide) (fun c12 => ?_) (fun c12 => ?_)
    · exact absurd ((nI_eq (a := cod (cM (h 14)) q) (b := w) (by have := cod_lt (cM (h 14)) q; omega) (by omega)).mp c12) hc
    · refine g_iconst dX4_takes_15 ic_0 ?_
      exact g_ireturn dX4_takes_16 rfl rfl

set_option maxRecDepth 100000 in
set_option maxHeartbeats 4000000 in
theorem c_takes_t {X : Sc} {h : Hp} {n : Nat} (e0 : h 14 0 = nI n) (hn : n ≤ 120) {q : Tk} (hq : TkOk (cM (h 14)) n q) {w : Nat} (hw : w < 24) (hc : cod (cM (h 14)) q = w) : Ct X yX4_takes cX4_takes 2 (some .boolean) 3 [.ref 28, .int (nI w)] (hX h q false) (some (.int 1)) (hX h ((nx false (cM (h 14)) n) q.b) false) := by
  refine ⟨rfl, ?_⟩
  refine g_aload_n dX4_takes_0 rfl ?_
  refine g_getI dX4_takes_1 fl_X4_212 rfl rfl ?_
  rw [hX_5]
  refine g_if_ne 15 dX4_takes_4 (by decide) (fun c4 => ?_) (fun c4 => ?_)
  · exact absurd rfl c4
  · refine g_aload_n dX4_takes_7 rfl ?_
    refine g_getI dX4_takes_8 fl_X4_206 rfl rfl ?_
    rw [hX_1]
    refine g_iload_n dX4_takes_11 rfl ?_
    refine g_icmp_eq 17 dX4_takes_12 (by decide) (fun c12 => ?_) (fun c12 => ?_)
    · refine g_aload_n dX4_takes_17 rfl ?_
      refine g_callV0v (c_reads e0 hn hq.2.1) mi_X4_reads mv_X4_reads ml_X4_216 dX4_takes_18 rfl rfl (by decide) (Nat.le_of_ble_eq_true rfl) (Nat.le_of_ble_eq_true rfl) ?_
      refine g_iconst dX4_takes_21 ic_1 ?_
      exact g_ireturn dX4_takes_22 rfl rfl
    · exact absurd ((nI_eq (a := cod (cM (h 14)) q) (b := w) (by have := cod_lt (cM (h 14)) q; omega) (by omega)).mpr hc) c12

set_option maxRecDepth 100000 in
set_option maxHeartbeats 4000000 in
theorem c_num_b {X : Sc} {h : Hp} {q : Tk} {x y : Int32} : Ct X yX4_number cX4_number 4 (some .int) 3 [.ref 28, .int x, .int y] (hX h q true) (some (.int (nI q.v))) (hX h q true) := by
  refine ⟨rfl, ?_⟩
  refine g_aload_n dX4_number_0 rfl ?_
  refine g_getI dX4_number_1 fl_X4_203 rfl rfl ?_
  rw [hX_4]
  refine g_istore_n dX4_number_4 (by decide) rfl ?_
  refine g_aload_n dX4_number_5 rfl ?_
  refine g_aload_n dX4_number_6 rfl ?_
  refine g_getI dX4_number_7 fl_X4_212 rfl rfl ?_
  rw [hX_5]
  refine g_if_ne 31 dX4_number_10 (by decide) (fun c10 => ?_) (fun c10 => ?_)
  · refine g_iconst dX4_number_31 ic_1 ?_
    refine g_goto 36 dX4_number_32 (by decide) ?_
    refine g_put dX4_number_36 fl_X4_212 fp_4_14 rfl rfl rfl rfl ?_
    rw [up_hX5t]
    refine g_aload_n dX4_number_39 rfl ?_
    refine g_getI dX4_number_40 fl_X4_212 rfl rfl ?_
    rw [hX_5]
    refine g_if_ne 50 dX4_number_43 (by decide) (fun c43 => ?_) (fun c43 => ?_)
    · refine g_iload_n dX4_number_50 rfl ?_
      exact g_ireturn dX4_number_51 rfl rfl
    · exact absurd c43 (by decide)
  · exact absurd c10 (by decide)

set_option maxRecDepth 100000 in
set_option maxHeartbeats 4000000 in
theorem c_num {X : Sc} {h : Hp} {n : Nat} (e0 : h 14 0 = nI n) (hn : n ≤ 120) {q : Tk} (hq : TkOk (cM (h 14)) n q) {T : Nat} (hT0 : T ≤ 9999) : Ct X yX4_number cX4_number 4 (some .int) 3 [.ref 28, .int 0, .int (nI T)] (hX h q false) (some (.int (nI q.v))) (hX h (tkN (nx false (cM (h 14)) n) T q) (!okN T q)) := by
  refine ⟨rfl, ?_⟩
  refine g_aload_n dX4_number_0 rfl ?_
  refine g_getI dX4_number_1 fl_X4_203 rfl rfl ?_
  rw [hX_4]
  refine g_istore_n dX4_number_4 (by decide) rfl ?_
  refine g_aload_n dX4_number_5 rfl ?_
  refine g_aload_n dX4_number_6 rfl ?_
  refine g_getI dX4_number_7 fl_X4_212 rfl rfl ?_
  rw [hX_5]
  refine g_if_ne 31 dX4_number_10 (by decide) (fun c10 => ?_) (fun c10 => ?_)
  · exact absurd rfl c10
  · refine g_aload_n dX4_number_13 rfl ?_
    refine g_getI dX4_number_14 fl_X4_206 rfl rfl ?_
    rw [hX_1]
    refine g_bipush dX4_number_17 bp_20 ?_
    refine g_icmp_ne 31 dX4_number_19 (by decide) (fun c19 => ?_) (fun c19 => ?_)
    · have o1 : okN T q = false := decide_eq_false (fun z => c19 (by rw [cod_20.mpr z.1]; rfl))
      rw [tkN_f o1, o1, Bool.not_false]
      refine g_iconst dX4_number_31 ic_1 ?_
      refine g_goto 36 dX4_number_32 (by decide) ?_
      refine g_put dX4_number_36 fl_X4_212 fp_4_14 rfl rfl rfl rfl ?_
      rw [up_hX5t]
      refine g_aload_n dX4_number_39 rfl ?_
      refine g_getI dX4_number_40 fl_X4_212 rfl rfl ?_
      rw [hX_5]
      refine g_if_ne 50 dX4_number_43 (by decide) (fun c43 => ?_) (fun c43 => ?_)
      · refine g_iload_n dX4_number_50 rfl ?_
        exact g_ireturn dX4_number_51 rfl rfl
      · exact absurd c43 (by decide)
    · have k2 : q.k = 2 := cod_20.mp ((nI_eq (a := cod (cM (h 14)) q) (b := 20) (by have := cod_lt (cM (h 14)) q; omega) (by decide)).mp c19)
      have hv := hq.2.2.1
      have ei : inB (nI q.v) 0 (nI T) = decide (q.v ≤ T) := beq_of (by rw [inB_iff, nI_toInt (by omega), nI_toInt (by omega), decide_eq_true_eq]; show (0 : Int) ≤ _ ∧ _ ↔ _; omega)
      refine g_iload_n dX4_number_22 rfl ?_
      refine g_iload_n dX4_number_23 rfl ?_
      refine g_iload_n dX4_number_24 rfl ?_
      refine g_callS3i (c_X4_in) mi_X4_in ms_X4_in ml_X4_40 dX4_number_25 (by decide) (Nat.le_of_ble_eq_true rfl) (Nat.le_of_ble_eq_true rfl) ?_
      rw [ei]
      refine g_if_ne 35 dX4_number_28 (by decide) (fun c28 => ?_) (fun c28 => ?_)
      · have o1 : okN T q = true := decide_eq_true ⟨k2, bI_dt c28⟩
        rw [tkN_t o1, o1, Bool.not_true]
        refine g_iconst dX4_number_35 ic_0 ?_
        refine g_put dX4_number_36 fl_X4_212 fp_4_14 rfl rfl rfl rfl ?_
        rw [up_hX5f]
        refine g_aload_n dX4_number_39 rfl ?_
        refine g_getI dX4_number_40 fl_X4_212 rfl rfl ?_
        rw [hX_5]
        refine g_if_ne 50 dX4_number_43 (by decide) (fun c43 => ?_) (fun c43 => ?_)
        · exact absurd rfl c43
        · refine g_aload_n dX4_number_46 rfl ?_
          refine g_callV0v (c_reads e0 hn hq.2.1) mi_X4_reads mv_X4_reads ml_X4_216 dX4_number_47 rfl rfl (by decide) (Nat.le_of_ble_eq_true rfl) (Nat.le_of_ble_eq_true rfl) ?_
          refine g_iload_n dX4_number_50 rfl ?_
          exact g_ireturn dX4_number_51 rfl rfl
      · have o1 : okN T q = false := decide_eq_false (fun z => bI_df c28 z.2)
        rw [tkN_f o1, o1, Bool.not_false]
        refine g_iconst dX4_number_31 ic_1 ?_
        refine g_goto 36 dX4_number_32 (by decide) ?_
        refine g_put dX4_number_36 fl_X4_212 fp_4_14 rfl rfl rfl rfl ?_
        rw [up_hX5t]
        refine g_aload_n dX4_number_39 rfl ?_
        refine g_getI dX4_number_40 fl_X4_212 rfl rfl ?_
        rw [hX_5]
        refine g_if_ne 50 dX4_number_43 (by decide) (fun c43 => ?_) (fun c43 => ?_)
        · refine g_iload_n dX4_number_50 rfl ?_
          exact g_ireturn dX4_number_51 rfl rfl
        · exact absurd c43 (by decide)

set_option maxRecDepth 100000 in
set_option maxHeartbeats 4000000 in
theorem c_per_b {X : Sc} {h : Hp} {q : Tk} {x y z so : Int32} : Ct X yX4_perhaps cX4_perhaps 5 (some .int) 4 [.ref 28, .int x, .int y, .int z, .int so] (hX h q true) (some (.int so)) (hX h q true) := by
  refine ⟨rfl, ?_⟩
  refine g_aload_n dX4_perhaps_0 rfl ?_
  refine g_iload_n dX4_perhaps_1 rfl ?_
  refine g_callV1i (c_takes_b) mi_X4_takes mv_X4_takes ml_X4_219 dX4_perhaps_2 rfl rfl (by decide) (Nat.le_of_ble_eq_true rfl) (Nat.le_of_ble_eq_true rfl) ?_
  refine g_if_eq 17 dX4_perhaps_5 (by decide) (fun c5 => ?_) (fun c5 => ?_)
  · refine g_iload dX4_perhaps_17 rfl ?_
    exact g_ireturn dX4_perhaps_19 rfl rfl
  · exact absurd rfl c5

set_option maxRecDepth 100000 in
set_option maxHeartbeats 4000000 in
theorem c_per_f {X : Sc} {h : Hp} {q : Tk} {w : Nat} (hw : w < 13) (hc : isW (cM (h 14)) q (ixW w) = false) {y z so : Int32} : Ct X yX4_perhaps cX4_perhaps 5 (some .int) 4 [.ref 28, .int (nI w), .int y, .int z, .int so] (hX h q false) (some (.int so)) (hX h q false) := by
  refine ⟨rfl, ?_⟩
  refine g_aload_n dX4_perhaps_0 rfl ?_
  refine g_iload_n dX4_perhaps_1 rfl ?_
  refine g_callV1i (c_takes_f (by omega) (fun z => by rw [(cod_w hw).mp z] at hc; cases hc)) mi_X4_takes mv_X4_takes ml_X4_219 dX4_perhaps_2 rfl rfl (by decide) (Nat.le_of_ble_eq_true rfl) (Nat.le_of_ble_eq_true rfl) ?_
  refine g_if_eq 17 dX4_perhaps_5 (by decide) (fun c5 => ?_) (fun c5 => ?_)
  · refine g_iload dX4_perhaps_17 rfl ?_
    exact g_ireturn dX4_perhaps_19 rfl rfl
  · exact absurd rfl c5

set_option maxRecDepth 100000 in
set_option maxHeartbeats 4000000 in
theorem c_per_t {X : Sc} {h : Hp} {n : Nat} (e0 : h 14 0 = nI n) (hn : n ≤ 120) {q : Tk} (hq : TkOk (cM (h 14)) n q) {w T : Nat} (hw : w < 13) (hc : isW (cM (h 14)) q (ixW w) = true) (hT0 : T ≤ 9999) {so : Int32} : Ct X yX4_perhaps cX4_perhaps 5 (some .int) 4 [.ref 28, .int (nI w), .int 0, .int (nI T), .int so] (hX h q false) (some (.int (nI ((nx false (cM (h 14)) n) q.b).v))) (hX h (tkN (nx false (cM (h 14)) n) T ((nx false (cM (h 14)) n) q.b)) (!okN T ((nx false (cM (h 14)) n) q.b))) := by
  refine ⟨rfl, ?_⟩
  refine g_aload_n dX4_perhaps_0 rfl ?_
  refine g_iload_n dX4_perhaps_1 rfl ?_
  refine g_callV1i (c_takes_t e0 hn hq (by omega) ((cod_w hw).mpr hc)) mi_X4_takes mv_X4_takes ml_X4_219 dX4_perhaps_2 rfl rfl (by decide) (Nat.le_of_ble_eq_true rfl) (Nat.le_of_ble_eq_true rfl) ?_
  refine g_if_eq 17 dX4_perhaps_5 (by decide) (fun c5 => ?_) (fun c5 => ?_)
  · exact absurd c5 (by decide)
  · refine g_aload_n dX4_perhaps_8 rfl ?_
    refine g_iload_n dX4_perhaps_9 rfl ?_
    refine g_iload_n dX4_perhaps_10 rfl ?_
    refine g_callV2i (c_num e0 hn (ok_N hq) hT0) mi_X4_number mv_X4_number ml_X4_222 dX4_perhaps_11 rfl rfl (by decide) (Nat.le_of_ble_eq_true rfl) (Nat.le_of_ble_eq_true rfl) ?_
    refine g_goto 19 dX4_perhaps_14 (by decide) ?_
    exact g_ireturn dX4_perhaps_19 rfl rfl

set_option maxRecDepth 100000 in
set_option maxHeartbeats 4000000 in
theorem l_md79 {X : Sc} {h : Hp} {n : Nat} (e0 : h 14 0 = nI n) (hn : n ≤ 120) {q : Tk} (hq : TkOk (cM (h 14)) n q) (hI : In (h 11)) (h8 : nD (h 11) < 8) {x l r p s : Int32} : Go X RX4 cX4_dishItem 8 5 79 [.ref 28, .int x, .int l, .int r, .int p, .int s, .null, .null] [] (hX h q false) none (hX (setg h 11 (rdD5 (nx false (cM (h 14)) n) (cM (h 14)) (h 11) x l r p s q).2.1) (rdD5 (nx false (cM (h 14)) n) (cM (h 14)) (h 11) x l r p s q).2.2 (!(rdD5 (nx false (cM (h 14)) n) (cM (h 14)) (h 11) x l r p s q).1)) := by
  refine g_aload_n dX4_dishItem_79 rfl ?_
  refine g_bipush dX4_dishItem_80 bp_9 ?_
  cases w1 : isW (cM (h 14)) q 12 with
  | false =>
    have e2x : (hX h q false) 11 2 = nI (nD ((hX h q false) 11)) := hI.nD.2
    rw [rdD5, tkW_f w1, w1]
    refine g_callV1i (c_takes_f (w := 9) (by decide) (fun z => absurd ((cod_w (w := 9) (by decide)).mp z) (by rw [show ixW 9 = 12 from rfl, w1]; decide))) mi_X4_takes mv_X4_takes ml_X4_219 dX4_dishItem_82 rfl rfl (by decide) (Nat.le_of_ble_eq_true rfl) (Nat.le_of_ble_eq_true rfl) ?_
    refine g_if_eq 92 dX4_dishItem_85 (by decide) (fun c85 => ?_) (fun c85 => ?_)
    · refine g_iconst dX4_dishItem_92 ic_0 ?_
      refine g_istore dX4_dishItem_93 (by decide) rfl ?_
      refine g_aload_n dX4_dishItem_95 rfl ?_
      refine g_getI dX4_dishItem_96 fl_X4_212 rfl rfl ?_
      rw [hX_5]
      refine g_if_ne 138 dX4_dishItem_99 (by decide) (fun c99 => ?_) (fun c99 => ?_)
      · exact absurd rfl c99
      · refine g_aload_n dX4_dishItem_102 rfl ?_
        refine g_iload_n dX4_dishItem_103 rfl ?_
        refine g_iload_n dX4_dishItem_104 rfl ?_
        refine g_iload_n dX4_dishItem_105 rfl ?_
        refine g_callV3i (c_X4_comes (h := hX h q false) e2x h8) mi_X4_comes mv_X4_comes ml_X4_70 dX4_dishItem_106 rfl rfl (by decide) (Nat.le_of_ble_eq_true rfl) (Nat.le_of_ble_eq_true rfl) ?_
        rw [hX_g _ _ _ (by decide), setg_hX _ _ _ (by decide)]
        refine g_istore dX4_dishItem_109 (by decide) rfl ?_
        refine g_aload_n dX4_dishItem_111 rfl ?_
        refine g_iload dX4_dishItem_112 rfl ?_
        refine g_iconst dX4_dishItem_114 ic_3 ?_
        refine g_iload dX4_dishItem_115 rfl ?_
        refine g_callV3v (c_X4_put (w := 3) h8 (by decide)) mi_X4_put mv_X4_put ml_X4_62 dX4_dishItem_117 rfl rfl (by decide) (Nat.le_of_ble_eq_true rfl) (Nat.le_of_ble_eq_true rfl) ?_
        rw [hX_g _ _ _ (by decide), setg_s, setg_hX _ _ _ (by decide), setg_2]
        refine g_aload_n dX4_dishItem_120 rfl ?_
        refine g_iload dX4_dishItem_121 rfl ?_
        refine g_iconst dX4_dishItem_123 ic_4 ?_
        refine g_iload dX4_dishItem_124 rfl ?_
        refine g_callV3v (c_X4_put (w := 4) h8 (by decide)) mi_X4_put mv_X4_put ml_X4_62 dX4_dishItem_126 rfl rfl (by decide) (Nat.le_of_ble_eq_true rfl) (Nat.le_of_ble_eq_true rfl) ?_
        rw [hX_g _ _ _ (by decide), setg_s, setg_hX _ _ _ (by decide), setg_2]
        refine g_aload_n dX4_dishItem_129 rfl ?_
        refine g_iload dX4_dishItem_130 rfl ?_
        refine g_iconst dX4_dishItem_132 ic_5 ?_
        refine g_iload dX4_dishItem_133 rfl ?_
        refine g_callV3v (c_X4_put (w := 5) h8 (by decide)) mi_X4_put mv_X4_put ml_X4_62 dX4_dishItem_135 rfl rfl (by decide) (Nat.le_of_ble_eq_true rfl) (Nat.le_of_ble_eq_true rfl) ?_
        rw [hX_g _ _ _ (by decide), setg_s, setg_hX _ _ _ (by decide), setg_2]
        exact g_return dX4_dishItem_138 rfl rfl
    · exact absurd rfl c85
  | true =>
    have e2x : (hX h ((nx false (cM (h 14)) n) q.b) false) 11 2 = nI (nD ((hX h ((nx false (cM (h 14)) n) q.b) false) 11)) := hI.nD.2
    rw [rdD5, tkW_t w1, w1]
    refine g_callV1i (c_takes_t (w := 9) e0 hn hq (by decide) ((cod_w (by decide)).mpr w1)) mi_X4_takes mv_X4_takes ml_X4_219 dX4_dishItem_82 rfl rfl (by decide) (Nat.le_of_ble_eq_true rfl) (Nat.le_of_ble_eq_true rfl) ?_
    refine g_if_eq 92 dX4_dishItem_85 (by decide) (fun c85 => ?_) (fun c85 => ?_)
    · exact absurd c85 (by decide)
    · refine g_iconst dX4_dishItem_88 ic_1 ?_
      refine g_goto 93 dX4_dishItem_89 (by decide) ?_
      refine g_istore dX4_dishItem_93 (by decide) rfl ?_
      refine g_aload_n dX4_dishItem_95 rfl ?_
      refine g_getI dX4_dishItem_96 fl_X4_212 rfl rfl ?_
      rw [hX_5]
      refine g_if_ne 138 dX4_dishItem_99 (by decide) (fun c99 => ?_) (fun c99 => ?_)
      · exact absurd rfl c99
      · refine g_aload_n dX4_dishItem_102 rfl ?_
        refine g_iload_n dX4_dishItem_103 rfl ?_
        refine g_iload_n dX4_dishItem_104 rfl ?_
        refine g_iload_n dX4_dishItem_105 rfl ?_
        refine g_callV3i (c_X4_comes (h := hX h ((nx false (cM (h 14)) n) q.b) false) e2x h8) mi_X4_comes mv_X4_comes ml_X4_70 dX4_dishItem_106 rfl rfl (by decide) (Nat.le_of_ble_eq_true rfl) (Nat.le_of_ble_eq_true rfl) ?_
        rw [hX_g _ _ _ (by decide), setg_hX _ _ _ (by decide)]
        refine g_istore dX4_dishItem_109 (by decide) rfl ?_
        refine g_aload_n dX4_dishItem_111 rfl ?_
        refine g_iload dX4_dishItem_112 rfl ?_
        refine g_iconst dX4_dishItem_114 ic_3 ?_
        refine g_iload dX4_dishItem_115 rfl ?_
        refine g_callV3v (c_X4_put (w := 3) h8 (by decide)) mi_X4_put mv_X4_put ml_X4_62 dX4_dishItem_117 rfl rfl (by decide) (Nat.le_of_ble_eq_true rfl) (Nat.le_of_ble_eq_true rfl) ?_
        rw [hX_g _ _ _ (by decide), setg_s, setg_hX _ _ _ (by decide), setg_2]
        refine g_aload_n dX4_dishItem_120 rfl ?_
        refine g_iload dX4_dishItem_121 rfl ?_
        refine g_iconst dX4_dishItem_123 ic_4 ?_
        refine g_iload dX4_dishItem_124 rfl ?_
        refine g_callV3v (c_X4_put (w := 4) h8 (by decide)) mi_X4_put mv_X4_put ml_X4_62 dX4_dishItem_126 rfl rfl (by decide) (Nat.le_of_ble_eq_true rfl) (Nat.le_of_ble_eq_true rfl) ?_
        rw [hX_g _ _ _ (by decide), setg_s, setg_hX _ _ _ (by decide), setg_2]
        refine g_aload_n dX4_dishItem_129 rfl ?_
        refine g_iload dX4_dishItem_130 rfl ?_
        refine g_iconst dX4_dishItem_132 ic_5 ?_
        refine g_iload dX4_dishItem_133 rfl ?_
        refine g_callV3v (c_X4_put (w := 5) h8 (by decide)) mi_X4_put mv_X4_put ml_X4_62 dX4_dishItem_135 rfl rfl (by decide) (Nat.le_of_ble_eq_true rfl) (Nat.le_of_ble_eq_true rfl) ?_
        rw [hX_g _ _ _ (by decide), setg_s, setg_hX _ _ _ (by decide), setg_2]
        exact g_return dX4_dishItem_138 rfl rfl

set_option maxRecDepth 100000 in
set_option maxHeartbeats 4000000 in
theorem l_md66 {X : Sc} {h : Hp} {n : Nat} (e0 : h 14 0 = nI n) (hn : n ≤ 120) {q : Tk} (hq : TkOk (cM (h 14)) n q) (hI : In (h 11)) (h8 : nD (h 11) < 8) {x l r p : Int32} : Go X RX4 cX4_dishItem 8 5 66 [.ref 28, .int x, .int l, .int r, .int p, .null, .null, .null] [] (hX h q false) none (hX (setg h 11 (rdD4 (nx false (cM (h 14)) n) (cM (h 14)) (h 11) x l r p q).2.1) (rdD4 (nx false (cM (h 14)) n) (cM (h 14)) (h 11) x l r p q).2.2 (!(rdD4 (nx false (cM (h 14)) n) (cM (h 14)) (h 11) x l r p q).1)) := by
  refine g_aload_n dX4_dishItem_66 rfl ?_
  refine g_bipush dX4_dishItem_67 bp_8 ?_
  refine g_iconst dX4_dishItem_69 ic_0 ?_
  refine g_sipush dX4_dishItem_70 sp_9999 ?_
  refine g_iconst dX4_dishItem_73 ic_0 ?_
  cases w1 : isW (cM (h 14)) q 11 with
  | false =>
    rw [show rdD4 (nx false (cM (h 14)) n) (cM (h 14)) (h 11) x l r p q = rdD5 (nx false (cM (h 14)) n) (cM (h 14)) (h 11) x l r p 0 q from by rw [rdD4, w1]; rfl]
    refine g_callV4i (c_per_f (w := 8) (by decide) w1) mi_X4_perhaps mv_X4_perhaps ml_X4_225 dX4_dishItem_74 rfl rfl (by decide) (Nat.le_of_ble_eq_true rfl) (Nat.le_of_ble_eq_true rfl) ?_
    refine g_istore dX4_dishItem_77 (by decide) rfl ?_
    exact l_md79 e0 hn hq hI h8
  | true =>
    rw [show rdD4 (nx false (cM (h 14)) n) (cM (h 14)) (h 11) x l r p q = (if okN 9999 ((nx false (cM (h 14)) n) q.b) = true then rdD5 (nx false (cM (h 14)) n) (cM (h 14)) (h 11) x l r p (nI ((nx false (cM (h 14)) n) q.b).v) (tkN (nx false (cM (h 14)) n) 9999 ((nx false (cM (h 14)) n) q.b)) else (false, h 11, (nx false (cM (h 14)) n) q.b)) from by rw [rdD4, w1]; rfl]
    have h4 := ok_N (fl := false) hq
    have K := c_per_t (X := X) (w := 8) (T := 9999) (so := 0) e0 hn hq (by decide) w1 (by decide)
    generalize nx false (cM (h 14)) n q.b = q4 at h4 K ⊢
    refine g_callV4i (K) mi_X4_perhaps mv_X4_perhaps ml_X4_225 dX4_dishItem_74 rfl rfl (by decide) (Nat.le_of_ble_eq_true rfl) (Nat.le_of_ble_eq_true rfl) ?_
    cases o1 : okN 9999 q4 with
    | false =>
      rw [if_neg (by decide), tkN_f o1, Bool.not_false]
      show Go _ _ _ _ _ _ _ _ _ _ (hX (setg h 11 (h 11)) q4 true)
      rw [setg_id]
      refine g_istore dX4_dishItem_77 (by decide) rfl ?_
      refine g_aload_n dX4_dishItem_79 rfl ?_
      refine g_bipush dX4_dishItem_80 bp_9 ?_
      refine g_callV1i (c_takes_b) mi_X4_takes mv_X4_takes ml_X4_219 dX4_dishItem_82 rfl rfl (by decide) (Nat.le_of_ble_eq_true rfl) (Nat.le_of_ble_eq_true rfl) ?_
      refine g_if_eq 92 dX4_dishItem_85 (by decide) (fun c85 => ?_) (fun c85 => ?_)
      · refine g_iconst dX4_dishItem_92 ic_0 ?_
        refine g_istore dX4_dishItem_93 (by decide) rfl ?_
        refine g_aload_n dX4_dishItem_95 rfl ?_
        refine g_getI dX4_dishItem_96 fl_X4_212 rfl rfl ?_
        rw [hX_5]
        refine g_if_ne 138 dX4_dishItem_99 (by decide) (fun c99 => ?_) (fun c99 => ?_)
        · exact g_return dX4_dishItem_138 rfl rfl
        · exact absurd c99 (by decide)
      · exact absurd rfl c85
    | true =>
      rw [if_pos rfl, Bool.not_true]
      refine g_istore dX4_dishItem_77 (by decide) rfl ?_
      exact l_md79 e0 hn (ok_tkN h4) hI h8

set_option maxRecDepth 100000 in
set_option maxHeartbeats 4000000 in
theorem l_md53 {X : Sc} {h : Hp} {n : Nat} (e0 : h 14 0 = nI n) (hn : n ≤ 120) {q : Tk} (hq : TkOk (cM (h 14)) n q) (hI : In (h 11)) (h8 : nD (h 11) < 8) {x l r : Int32} : Go X RX4 cX4_dishItem 8 5 53 [.ref 28, .int x, .int l, .int r, .null, .null, .null, .null] [] (hX h q false) none (hX (setg h 11 (rdD3 (nx false (cM (h 14)) n) (cM (h 14)) (h 11) x l r q).2.1) (rdD3 (nx false (cM (h 14)) n) (cM (h 14)) (h 11) x l r q).2.2 (!(rdD3 (nx false (cM (h 14)) n) (cM (h 14)) (h 11) x l r q).1)) := by
  refine g_aload_n dX4_dishItem_53 rfl ?_
  refine g_bipush dX4_dishItem_54 bp_7 ?_
  refine g_iconst dX4_dishItem_56 ic_0 ?_
  refine g_bipush dX4_dishItem_57 bp_99 ?_
  refine g_bipush dX4_dishItem_59 bp_10 ?_
  cases w1 : isW (cM (h 14)) q 10 with
  | false =>
    rw [show rdD3 (nx false (cM (h 14)) n) (cM (h 14)) (h 11) x l r q = rdD4 (nx false (cM (h 14)) n) (cM (h 14)) (h 11) x l r 10 q from by rw [rdD3, w1]; rfl]
    refine g_callV4i (c_per_f (w := 7) (by decide) w1) mi_X4_perhaps mv_X4_perhaps ml_X4_225 dX4_dishItem_61 rfl rfl (by decide) (Nat.le_of_ble_eq_true rfl) (Nat.le_of_ble_eq_true rfl) ?_
    refine g_istore dX4_dishItem_64 (by decide) rfl ?_
    exact l_md66 e0 hn hq hI h8
  | true =>
    rw [show rdD3 (nx false (cM (h 14)) n) (cM (h 14)) (h 11) x l r q = (if okN 99 ((nx false (cM (h 14)) n) q.b) = true then rdD4 (nx false (cM (h 14)) n) (cM (h 14)) (h 11) x l r (nI ((nx false (cM (h 14)) n) q.b).v) (tkN (nx false (cM (h 14)) n) 99 ((nx false (cM (h 14)) n) q.b)) else (false, h 11, (nx false (cM (h 14)) n) q.b)) from by rw [rdD3, w1]; rfl]
    have h4 := ok_N (fl := false) hq
    have K := c_per_t (X := X) (w := 7) (T := 99) (so := 10) e0 hn hq (by decide) w1 (by decide)
    generalize nx false (cM (h 14)) n q.b = q4 at h4 K ⊢
    refine g_callV4i (K) mi_X4_perhaps mv_X4_perhaps ml_X4_225 dX4_dishItem_61 rfl rfl (by decide) (Nat.le_of_ble_eq_true rfl) (Nat.le_of_ble_eq_true rfl) ?_
    cases o1 : okN 99 q4 with
    | false =>
      rw [if_neg (by decide), tkN_f o1, Bool.not_false]
      show Go _ _ _ _ _ _ _ _ _ _ (hX (setg h 11 (h 11)) q4 true)
      rw [setg_id]
      refine g_istore dX4_dishItem_64 (by decide) rfl ?_
      refine g_aload_n dX4_dishItem_66 rfl ?_
      refine g_bipush dX4_dishItem_67 bp_8 ?_
      refine g_iconst dX4_dishItem_69 ic_0 ?_
      refine g_sipush dX4_dishItem_70 sp_9999 ?_
      refine g_iconst dX4_dishItem_73 ic_0 ?_
      refine g_callV4i (c_per_b) mi_X4_perhaps mv_X4_perhaps ml_X4_225 dX4_dishItem_74 rfl rfl (by decide) (Nat.le_of_ble_eq_true rfl) (Nat.le_of_ble_eq_true rfl) ?_
      refine g_istore dX4_dishItem_77 (by decide) rfl ?_
      refine g_aload_n dX4_dishItem_79 rfl ?_
      refine g_bipush dX4_dishItem_80 bp_9 ?_
      refine g_callV1i (c_takes_b) mi_X4_takes mv_X4_takes ml_X4_219 dX4_dishItem_82 rfl rfl (by decide) (Nat.le_of_ble_eq_true rfl) (Nat.le_of_ble_eq_true rfl) ?_
      refine g_if_eq 92 dX4_dishItem_85 (by decide) (fun c85 => ?_) (fun c85 => ?_)
      · refine g_iconst dX4_dishItem_92 ic_0 ?_
        refine g_istore dX4_dishItem_93 (by decide) rfl ?_
        refine g_aload_n dX4_dishItem_95 rfl ?_
        refine g_getI dX4_dishItem_96 fl_X4_212 rfl rfl ?_
        rw [hX_5]
        refine g_if_ne 138 dX4_dishItem_99 (by decide) (fun c99 => ?_) (fun c99 => ?_)
        · exact g_return dX4_dishItem_138 rfl rfl
        · exact absurd c99 (by decide)
      · exact absurd rfl c85
    | true =>
      rw [if_pos rfl, Bool.not_true]
      refine g_istore dX4_dishItem_64 (by decide) rfl ?_
      exact l_md66 e0 hn (ok_tkN h4) hI h8

set_option maxRecDepth 100000 in
set_option maxHeartbeats 4000000 in
theorem c_X4_dishItem {X : Sc} {h : Hp} {n : Nat} (e0 : h 14 0 = nI n) (hn : n ≤ 120) {q : Tk} (hq : TkOk (cM (h 14)) n q) (hI : In (h 11)) {b : Bool} : Ct X yX4_dishItem cX4_dishItem 8 none 5 [.ref 28] (hX h q b) none (hX (setg h 11 (rdD (nx false (cM (h 14)) n) (cM (h 14)) (h 11) (nI (cod (cM (h 14)) q)) q).2.1) (rdD (nx false (cM (h 14)) n) (cM (h 14)) (h 11) (nI (cod (cM (h 14)) q)) q).2.2 (!(rdD (nx false (cM (h 14)) n) (cM (h 14)) (h 11) (nI (cod (cM (h 14)) q)) q).1)) := by
  have e2 : h 11 2 = nI (nD (h 11)) := hI.nD.2
  have l2 := hI.nD.1
  refine ⟨trivial, ?_⟩
  refine g_aload_n dX4_dishItem_0 rfl ?_
  refine g_getI dX4_dishItem_1 fl_X4_206 rfl rfl ?_
  rw [hX_1]
  refine g_istore_n dX4_dishItem_4 (by decide) rfl ?_
  refine g_aload_n dX4_dishItem_5 rfl ?_
  refine g_aload_n dX4_dishItem_6 rfl ?_
  refine g_getR dX4_dishItem_7 fl_X4_9 rfl rfl ?_
  refine g_iconst dX4_dishItem_10 ic_2 ?_
  refine g_iald0 2 dX4_dishItem_11 rfl rfl (by decide) ?_
  rw [hX_g _ _ _ (by decide), e2]
  refine g_bipush dX4_dishItem_12 bp_8 ?_
  refine g_icmp_ne 21 dX4_dishItem_14 (by decide) (fun c14 => ?_) (fun c14 => ?_)
  · have h8 : nD (h 11) < 8 := by
      rcases Nat.lt_or_ge (nD (h 11)) 8 with z | z
      · exact z
      · exact absurd (by rw [show nD (h 11) = 8 by omega]; rfl) c14
    rw [show rdD (nx false (cM (h 14)) n) (cM (h 14)) (h 11) (nI (cod (cM (h 14)) q)) q = rdD1 (nx false (cM (h 14)) n) (cM (h 14)) (h 11) (nI (cod (cM (h 14)) q)) ((nx false (cM (h 14)) n) q.b) from if_pos h8]
    refine g_iconst dX4_dishItem_21 ic_0 ?_
    refine g_put dX4_dishItem_22 fl_X4_212 fp_4_14 rfl rfl rfl rfl ?_
    rw [up_hX5f]
    refine g_aload_n dX4_dishItem_25 rfl ?_
    refine g_getI dX4_dishItem_26 fl_X4_212 rfl rfl ?_
    rw [hX_5]
    refine g_if_eq 33 dX4_dishItem_29 (by decide) (fun c29 => ?_) (fun c29 => ?_)
    · refine g_aload_n dX4_dishItem_33 rfl ?_
      refine g_callV0v (c_reads e0 hn hq.2.1) mi_X4_reads mv_X4_reads ml_X4_216 dX4_dishItem_34 rfl rfl (by decide) (Nat.le_of_ble_eq_true rfl) (Nat.le_of_ble_eq_true rfl) ?_
      have h1 := ok_N (fl := false) hq
      generalize nx false (cM (h 14)) n q.b = q1 at h1 ⊢
      refine g_aload_n dX4_dishItem_37 rfl ?_
      refine g_iconst dX4_dishItem_38 ic_0 ?_
      refine g_bipush dX4_dishItem_39 bp_11 ?_
      refine g_callV2i (c_num (T := 11) e0 hn h1 (by decide)) mi_X4_number mv_X4_number ml_X4_222 dX4_dishItem_41 rfl rfl (by decide) (Nat.le_of_ble_eq_true rfl) (Nat.le_of_ble_eq_true rfl) ?_
      cases o1 : okN 11 q1 with
      | false =>
        rw [tkN_f o1, Bool.not_false]
        have eR : rdD1 (nx false (cM (h 14)) n) (cM (h 14)) (h 11) (nI (cod (cM (h 14)) q)) q1 = (false, h 11, q1) := by rw [rdD1, o1]; rfl
        rw [eR]
        show Go _ _ _ _ _ _ _ _ _ _ (hX (setg h 11 (h 11)) q1 true)
        rw [setg_id]
        refine g_istore_n dX4_dishItem_44 (by decide) rfl ?_
        refine g_aload_n dX4_dishItem_45 rfl ?_
        refine g_iconst dX4_dishItem_46 ic_0 ?_
        refine g_bipush dX4_dishItem_47 bp_11 ?_
        refine g_callV2i (c_num_b) mi_X4_number mv_X4_number ml_X4_222 dX4_dishItem_49 rfl rfl (by decide) (Nat.le_of_ble_eq_true rfl) (Nat.le_of_ble_eq_true rfl) ?_
        refine g_istore_n dX4_dishItem_52 (by decide) rfl ?_
        refine g_aload_n dX4_dishItem_53 rfl ?_
        refine g_bipush dX4_dishItem_54 bp_7 ?_
        refine g_iconst dX4_dishItem_56 ic_0 ?_
        refine g_bipush dX4_dishItem_57 bp_99 ?_
        refine g_bipush dX4_dishItem_59 bp_10 ?_
        refine g_callV4i (c_per_b) mi_X4_perhaps mv_X4_perhaps ml_X4_225 dX4_dishItem_61 rfl rfl (by decide) (Nat.le_of_ble_eq_true rfl) (Nat.le_of_ble_eq_true rfl) ?_
        refine g_istore dX4_dishItem_64 (by decide) rfl ?_
        refine g_aload_n dX4_dishItem_66 rfl ?_
        refine g_bipush dX4_dishItem_67 bp_8 ?_
        refine g_iconst dX4_dishItem_69 ic_0 ?_
        refine g_sipush dX4_dishItem_70 sp_9999 ?_
        refine g_iconst dX4_dishItem_73 ic_0 ?_
        refine g_callV4i (c_per_b) mi_X4_perhaps mv_X4_perhaps ml_X4_225 dX4_dishItem_74 rfl rfl (by decide) (Nat.le_of_ble_eq_true rfl) (Nat.le_of_ble_eq_true rfl) ?_
        refine g_istore dX4_dishItem_77 (by decide) rfl ?_
        refine g_aload_n dX4_dishItem_79 rfl ?_
        refine g_bipush dX4_dishItem_80 bp_9 ?_
        refine g_callV1i (c_takes_b) mi_X4_takes mv_X4_takes ml_X4_219 dX4_dishItem_82 rfl rfl (by decide) (Nat.le_of_ble_eq_true rfl) (Nat.le_of_ble_eq_true rfl) ?_
        refine g_if_eq 92 dX4_dishItem_85 (by decide) (fun c85 => ?_) (fun c85 => ?_)
        · refine g_iconst dX4_dishItem_92 ic_0 ?_
          refine g_istore dX4_dishItem_93 (by decide) rfl ?_
          refine g_aload_n dX4_dishItem_95 rfl ?_
          refine g_getI dX4_dishItem_96 fl_X4_212 rfl rfl ?_
          rw [hX_5]
          refine g_if_ne 138 dX4_dishItem_99 (by decide) (fun c99 => ?_) (fun c99 => ?_)
          · exact g_return dX4_dishItem_138 rfl rfl
          · exact absurd c99 (by decide)
        · exact absurd rfl c85
      | true =>
        rw [Bool.not_true]
        rw [show rdD1 (nx false (cM (h 14)) n) (cM (h 14)) (h 11) (nI (cod (cM (h 14)) q)) q1 = rdD2 (nx false (cM (h 14)) n) (cM (h 14)) (h 11) (nI (cod (cM (h 14)) q)) (nI q1.v) (tkN (nx false (cM (h 14)) n) 11 q1) from if_pos o1]
        have h2 := ok_tkN (fl := false) (T := 11) h1
        generalize tkN (nx false (cM (h 14)) n) 11 q1 = q2 at h2 ⊢
        refine g_istore_n dX4_dishItem_44 (by decide) rfl ?_
        refine g_aload_n dX4_dishItem_45 rfl ?_
        refine g_iconst dX4_dishItem_46 ic_0 ?_
        refine g_bipush dX4_dishItem_47 bp_11 ?_
        refine g_callV2i (c_num (T := 11) e0 hn h2 (by decide)) mi_X4_number mv_X4_number ml_X4_222 dX4_dishItem_49 rfl rfl (by decide) (Nat.le_of_ble_eq_true rfl) (Nat.le_of_ble_eq_true rfl) ?_
        cases o2 : okN 11 q2 with
        | false =>
          rw [tkN_f o2, Bool.not_false]
          have eR : rdD2 (nx false (cM (h 14)) n) (cM (h 14)) (h 11) (nI (cod (cM (h 14)) q)) (nI q1.v) q2 = (false, h 11, q2) := by rw [rdD2, o2]; rfl
          rw [eR]
          show Go _ _ _ _ _ _ _ _ _ _ (hX (setg h 11 (h 11)) q2 true)
          rw [setg_id]
          refine g_istore_n dX4_dishItem_52 (by decide) rfl ?_
          refine g_aload_n dX4_dishItem_53 rfl ?_
          refine g_bipush dX4_dishItem_54 bp_7 ?_
          refine g_iconst dX4_dishItem_56 ic_0 ?_
          refine g_bipush dX4_dishItem_57 bp_99 ?_
          refine g_bipush dX4_dishItem_59 bp_10 ?_
          refine g_callV4i (c_per_b) mi_X4_perhaps mv_X4_perhaps ml_X4_225 dX4_dishItem_61 rfl rfl (by decide) (Nat.le_of_ble_eq_true rfl) (Nat.le_of_ble_eq_true rfl) ?_
          refine g_istore dX4_dishItem_64 (by decide) rfl ?_
          refine g_aload_n dX4_dishItem_66 rfl ?_
          refine g_bipush dX4_dishItem_67 bp_8 ?_
          refine g_iconst dX4_dishItem_69 ic_0 ?_
          refine g_sipush dX4_dishItem_70 sp_9999 ?_
          refine g_iconst dX4_dishItem_73 ic_0 ?_
          refine g_callV4i (c_per_b) mi_X4_perhaps mv_X4_perhaps ml_X4_225 dX4_dishItem_74 rfl rfl (by decide) (Nat.le_of_ble_eq_true rfl) (Nat.le_of_ble_eq_true rfl) ?_
          refine g_istore dX4_dishItem_77 (by decide) rfl ?_
          refine g_aload_n dX4_dishItem_79 rfl ?_
          refine g_bipush dX4_dishItem_80 bp_9 ?_
          refine g_callV1i (c_takes_b) mi_X4_takes mv_X4_takes ml_X4_219 dX4_dishItem_82 rfl rfl (by decide) (Nat.le_of_ble_eq_true rfl) (Nat.le_of_ble_eq_true rfl) ?_
          refine g_if_eq 92 dX4_dishItem_85 (by decide) (fun c85 => ?_) (fun c85 => ?_)
          · refine g_iconst dX4_dishItem_92 ic_0 ?_
            refine g_istore dX4_dishItem_93 (by decide) rfl ?_
            refine g_aload_n dX4_dishItem_95 rfl ?_
            refine g_getI dX4_dishItem_96 fl_X4_212 rfl rfl ?_
            rw [hX_5]
            refine g_if_ne 138 dX4_dishItem_99 (by decide) (fun c99 => ?_) (fun c99 => ?_)
            · exact g_return dX4_dishItem_138 rfl rfl
            · exact absurd c99 (by decide)
          · exact absurd rfl c85
        | true =>
          rw [Bool.not_true]
          rw [show rdD2 (nx false (cM (h 14)) n) (cM (h 14)) (h 11) (nI (cod (cM (h 14)) q)) (nI q1.v) q2 = rdD3 (nx false (cM (h 14)) n) (cM (h 14)) (h 11) (nI (cod (cM (h 14)) q)) (nI q1.v) (nI q2.v) (tkN (nx false (cM (h 14)) n) 11 q2) from if_pos o2]
          refine g_istore_n dX4_dishItem_52 (by decide) rfl ?_
          exact l_md53 e0 hn (ok_tkN h2) hI h8
    · exact absurd rfl c29
  · have n8 : ¬ nD (h 11) < 8 := fun z => by have := (nI_eq (a := nD (h 11)) (b := 8) (by omega) (by decide)).mp c14; omega
    have eR : rdD (nx false (cM (h 14)) n) (cM (h 14)) (h 11) (nI (cod (cM (h 14)) q)) q = (false, h 11, q) := by rw [rdD, if_neg n8]
    rw [eR]
    show Go _ _ _ _ _ _ _ _ _ _ (hX (setg h 11 (h 11)) q true)
    rw [setg_id]
    refine g_iconst dX4_dishItem_17 ic_1 ?_
    refine g_goto 22 dX4_dishItem_18 (by decide) ?_
    refine g_put dX4_dishItem_22 fl_X4_212 fp_4_14 rfl rfl rfl rfl ?_
    rw [up_hX5t]
    refine g_aload_n dX4_dishItem_25 rfl ?_
    refine g_getI dX4_dishItem_26 fl_X4_212 rfl rfl ?_
    rw [hX_5]
    refine g_if_eq 33 dX4_dishItem_29 (by decide) (fun c29 => ?_) (fun c29 => ?_)
    · exact absurd c29 (by decide)
    · exact g_return dX4_dishItem_32 rfl rfl

set_option maxRecDepth 100000 in
set_option maxHeartbeats 4000000 in
theorem c_X4_guestItem {X : Sc} {h : Hp} {n : Nat} (e0 : h 14 0 = nI n) (hn : n ≤ 120) {q : Tk} (hq : TkOk (cM (h 14)) n q) (hI : In (h 11)) {b : Bool} : Ct X yX4_guestItem cX4_guestItem 4 none 5 [.ref 28] (hX h q b) none (hX (setg h 11 (rdG (nx false (cM (h 14)) n) (cM (h 14)) (h 11) q).2.1) (rdG (nx false (cM (h 14)) n) (cM (h 14)) (h 11) q).2.2 (!(rdG (nx false (cM (h 14)) n) (cM (h 14)) (h 11) q).1)) := by
  have e3 : h 11 3 = nI (nG (h 11)) := hI.nG.2
  have l3 := hI.nG.1
  refine ⟨trivial, ?_⟩
  refine g_aload_n dX4_guestItem_0 rfl ?_
  refine g_aload_n dX4_guestItem_1 rfl ?_
  refine g_getR dX4_guestItem_2 fl_X4_9 rfl rfl ?_
  refine g_iconst dX4_guestItem_5 ic_3 ?_
  refine g_iald0 3 dX4_guestItem_6 rfl rfl (by decide) ?_
  rw [hX_g _ _ _ (by decide), e3]
  refine g_bipush dX4_guestItem_7 bp_6 ?_
  refine g_icmp_ne 16 dX4_guestItem_9 (by decide) (fun c9 => ?_) (fun c9 => ?_)
  · have h8 : nG (h 11) < 6 := by
      rcases Nat.lt_or_ge (nG (h 11)) 6 with z | z
      · exact z
      · exact absurd (by rw [show nG (h 11) = 6 by omega]; rfl) c9
    rw [show rdG (nx false (cM (h 14)) n) (cM (h 14)) (h 11) q = rdG1 (nx false (cM (h 14)) n) (cM (h 14)) (h 11) ((nx false (cM (h 14)) n) q.b) from if_pos h8]
    refine g_iconst dX4_guestItem_16 ic_0 ?_
    refine g_put dX4_guestItem_17 fl_X4_212 fp_4_14 rfl rfl rfl rfl ?_
    rw [up_hX5f]
    refine g_aload_n dX4_guestItem_20 rfl ?_
    refine g_getI dX4_guestItem_21 fl_X4_212 rfl rfl ?_
    rw [hX_5]
    refine g_if_eq 28 dX4_guestItem_24 (by decide) (fun c24 => ?_) (fun c24 => ?_)
    · refine g_aload_n dX4_guestItem_28 rfl ?_
      refine g_callV0v (c_reads e0 hn hq.2.1) mi_X4_reads mv_X4_reads ml_X4_216 dX4_guestItem_29 rfl rfl (by decide) (Nat.le_of_ble_eq_true rfl) (Nat.le_of_ble_eq_true rfl) ?_
      have h1 := ok_N (fl := false) hq
      generalize nx false (cM (h 14)) n q.b = q1 at h1 ⊢
      refine g_aload_n dX4_guestItem_32 rfl ?_
      refine g_iconst dX4_guestItem_33 ic_0 ?_
      refine g_bipush dX4_guestItem_34 bp_99 ?_
      refine g_callV2i (c_num (T := 99) e0 hn h1 (by decide)) mi_X4_number mv_X4_number ml_X4_222 dX4_guestItem_36 rfl rfl (by decide) (Nat.le_of_ble_eq_true rfl) (Nat.le_of_ble_eq_true rfl) ?_
      cases o1 : okN 99 q1 with
      | false =>
        rw [tkN_f o1, Bool.not_false]
        have eR : rdG1 (nx false (cM (h 14)) n) (cM (h 14)) (h 11) q1 = (false, h 11, q1) := by rw [rdG1, o1]; rfl
        rw [eR]
        show Go _ _ _ _ _ _ _ _ _ _ (hX (setg h 11 (h 11)) q1 true)
        rw [setg_id]
        refine g_istore_n dX4_guestItem_39 (by decide) rfl ?_
        refine g_aload_n dX4_guestItem_40 rfl ?_
        refine g_bipush dX4_guestItem_41 bp_11 ?_
        refine g_iconst dX4_guestItem_43 ic_0 ?_
        refine g_bipush dX4_guestItem_44 bp_11 ?_
        refine g_iconst dX4_guestItem_46 ic_0 ?_
        refine g_callV4i (c_per_b) mi_X4_perhaps mv_X4_perhaps ml_X4_225 dX4_guestItem_47 rfl rfl (by decide) (Nat.le_of_ble_eq_true rfl) (Nat.le_of_ble_eq_true rfl) ?_
        refine g_istore_n dX4_guestItem_50 (by decide) rfl ?_
        refine g_aload_n dX4_guestItem_51 rfl ?_
        refine g_getI dX4_guestItem_52 fl_X4_212 rfl rfl ?_
        rw [hX_5]
        refine g_if_ne 65 dX4_guestItem_55 (by decide) (fun c55 => ?_) (fun c55 => ?_)
        · exact g_return dX4_guestItem_65 rfl rfl
        · exact absurd c55 (by decide)
      | true =>
        rw [Bool.not_true]
        rw [show rdG1 (nx false (cM (h 14)) n) (cM (h 14)) (h 11) q1 = rdG2 (nx false (cM (h 14)) n) (cM (h 14)) (h 11) (nI q1.v) (tkN (nx false (cM (h 14)) n) 99 q1) from if_pos o1]
        have h2 := ok_tkN (fl := false) (T := 99) h1
        generalize tkN (nx false (cM (h 14)) n) 99 q1 = q2 at h2 ⊢
        refine g_istore_n dX4_guestItem_39 (by decide) rfl ?_
        refine g_aload_n dX4_guestItem_40 rfl ?_
        refine g_bipush dX4_guestItem_41 bp_11 ?_
        refine g_iconst dX4_guestItem_43 ic_0 ?_
        refine g_bipush dX4_guestItem_44 bp_11 ?_
        refine g_iconst dX4_guestItem_46 ic_0 ?_
        cases w1 : isW (cM (h 14)) q2 1 with
        | false =>
          have e3x : (hX h q2 false) 11 3 = nI (nG ((hX h q2 false) 11)) := hI.nG.2
          rw [show rdG2 (nx false (cM (h 14)) n) (cM (h 14)) (h 11) (nI q1.v) q2 = (true, newG2 (h 11) (nI q1.v) 0, q2) from by rw [rdG2, w1]; rfl]
          refine g_callV4i (c_per_f (w := 11) (by decide) w1) mi_X4_perhaps mv_X4_perhaps ml_X4_225 dX4_guestItem_47 rfl rfl (by decide) (Nat.le_of_ble_eq_true rfl) (Nat.le_of_ble_eq_true rfl) ?_
          refine g_istore_n dX4_guestItem_50 (by decide) rfl ?_
          refine g_aload_n dX4_guestItem_51 rfl ?_
          refine g_getI dX4_guestItem_52 fl_X4_212 rfl rfl ?_
          rw [hX_5]
          refine g_if_ne 65 dX4_guestItem_55 (by decide) (fun c55 => ?_) (fun c55 => ?_)
          · exact absurd rfl c55
          · refine g_aload_n dX4_guestItem_58 rfl ?_
            refine g_iload_n dX4_guestItem_59 rfl ?_
            refine g_iload_n dX4_guestItem_60 rfl ?_
            refine g_callV2i (c_X4_enters (h := hX h q2 false) e3x h8) mi_X4_enters mv_X4_enters ml_X4_77 dX4_guestItem_61 rfl rfl (by decide) (Nat.le_of_ble_eq_true rfl) (Nat.le_of_ble_eq_true rfl) ?_
            rw [hX_g _ _ _ (by decide), setg_hX _ _ _ (by decide)]
            refine g_istore_n dX4_guestItem_64 (by decide) rfl ?_
            exact g_return dX4_guestItem_65 rfl rfl
        | true =>
          rw [show rdG2 (nx false (cM (h 14)) n) (cM (h 14)) (h 11) (nI q1.v) q2 = (if okN 11 ((nx false (cM (h 14)) n) q2.b) = true then (true, newG2 (h 11) (nI q1.v) (nI ((nx false (cM (h 14)) n) q2.b).v), tkN (nx false (cM (h 14)) n) 11 ((nx false (cM (h 14)) n) q2.b)) else (false, h 11, (nx false (cM (h 14)) n) q2.b)) from by rw [rdG2, w1]; rfl]
          have h4 := ok_N (fl := false) h2
          have K := c_per_t (X := X) (w := 11) (T := 11) (so := 0) e0 hn h2 (by decide) w1 (by decide)
          generalize nx false (cM (h 14)) n q2.b = q4 at h4 K ⊢
          refine g_callV4i (K) mi_X4_perhaps mv_X4_perhaps ml_X4_225 dX4_guestItem_47 rfl rfl (by decide) (Nat.le_of_ble_eq_true rfl) (Nat.le_of_ble_eq_true rfl) ?_
          cases o1 : okN 11 q4 with
          | false =>
            rw [if_neg (by decide), tkN_f o1, Bool.not_false]
            show Go _ _ _ _ _ _ _ _ _ _ (hX (setg h 11 (h 11)) q4 true)
            rw [setg_id]
            refine g_istore_n dX4_guestItem_50 (by decide) rfl ?_
            refine g_aload_n dX4_guestItem_51 rfl ?_
            refine g_getI dX4_guestItem_52 fl_X4_212 rfl rfl ?_
            rw [hX_5]
            refine g_if_ne 65 dX4_guestItem_55 (by decide) (fun c55 => ?_) (fun c55 => ?_)
            · exact g_return dX4_guestItem_65 rfl rfl
            · exact absurd c55 (by decide)
          | true =>
            rw [if_pos rfl, Bool.not_true]
            have e3x : (hX h (tkN (nx false (cM (h 14)) n) 11 q4) false) 11 3 = nI (nG ((hX h (tkN (nx false (cM (h 14)) n) 11 q4) false) 11)) := hI.nG.2
            refine g_istore_n dX4_guestItem_50 (by decide) rfl ?_
            refine g_aload_n dX4_guestItem_51 rfl ?_
            refine g_getI dX4_guestItem_52 fl_X4_212 rfl rfl ?_
            rw [hX_5]
            refine g_if_ne 65 dX4_guestItem_55 (by decide) (fun c55 => ?_) (fun c55 => ?_)
            · exact absurd rfl c55
            · refine g_aload_n dX4_guestItem_58 rfl ?_
              refine g_iload_n dX4_guestItem_59 rfl ?_
              refine g_iload_n dX4_guestItem_60 rfl ?_
              refine g_callV2i (c_X4_enters (h := hX h (tkN (nx false (cM (h 14)) n) 11 q4) false) e3x h8) mi_X4_enters mv_X4_enters ml_X4_77 dX4_guestItem_61 rfl rfl (by decide) (Nat.le_of_ble_eq_true rfl) (Nat.le_of_ble_eq_true rfl) ?_
              rw [hX_g _ _ _ (by decide), setg_hX _ _ _ (by decide)]
              refine g_istore_n dX4_guestItem_64 (by decide) rfl ?_
              exact g_return dX4_guestItem_65 rfl rfl
    · exact absurd rfl c24
  · have n8 : ¬ nG (h 11) < 6 := fun z => by have := (nI_eq (a := nG (h 11)) (b := 6) (by omega) (by decide)).mp c9; omega
    have eR : rdG (nx false (cM (h 14)) n) (cM (h 14)) (h 11) q = (false, h 11, q) := by rw [rdG, if_neg n8]
    rw [eR]
    show Go _ _ _ _ _ _ _ _ _ _ (hX (setg h 11 (h 11)) q true)
    rw [setg_id]
    refine g_iconst dX4_guestItem_12 ic_1 ?_
    refine g_goto 17 dX4_guestItem_13 (by decide) ?_
    refine g_put dX4_guestItem_17 fl_X4_212 fp_4_14 rfl rfl rfl rfl ?_
    rw [up_hX5t]
    refine g_aload_n dX4_guestItem_20 rfl ?_
    refine g_getI dX4_guestItem_21 fl_X4_212 rfl rfl ?_
    rw [hX_5]
    refine g_if_eq 28 dX4_guestItem_24 (by decide) (fun c24 => ?_) (fun c24 => ?_)
    · exact absurd c24 (by decide)
    · exact g_return dX4_guestItem_27 rfl rfl

set_option maxRecDepth 100000 in
set_option maxHeartbeats 4000000 in
theorem c_X4_mealItem {X : Sc} {h : Hp} {n : Nat} (e0 : h 14 0 = nI n) (hn : n ≤ 120) {q : Tk} (hq : TkOk (cM (h 14)) n q) : Ct X yX4_mealItem cX4_mealItem 4 none 5 [.ref 28] (hX h q false) none (hX (setg h 11 (rdM1 (nx false (cM (h 14)) n) (h 11) q).2.1) (rdM1 (nx false (cM (h 14)) n) (h 11) q).2.2 (!(rdM1 (nx false (cM (h 14)) n) (h 11) q).1)) := by
  refine ⟨trivial, ?_⟩
  refine g_aload_n dX4_mealItem_0 rfl ?_
  refine g_iconst dX4_mealItem_1 ic_0 ?_
  refine g_iconst dX4_mealItem_2 ic_5 ?_
  refine g_callV2i (c_num (T := 5) e0 hn hq (by decide)) mi_X4_number mv_X4_number ml_X4_222 dX4_mealItem_3 rfl rfl (by decide) (Nat.le_of_ble_eq_true rfl) (Nat.le_of_ble_eq_true rfl) ?_
  cases o1 : okN 5 q with
  | false =>
    rw [tkN_f o1, Bool.not_false]
    have eR : rdM1 (nx false (cM (h 14)) n) (h 11) q = (false, h 11, q) := by rw [rdM1, o1]; rfl
    rw [eR]
    show Go _ _ _ _ _ _ _ _ _ _ (hX (setg h 11 (h 11)) q true)
    rw [setg_id]
    refine g_istore_n dX4_mealItem_6 (by decide) rfl ?_
    refine g_aload_n dX4_mealItem_7 rfl ?_
    refine g_iconst dX4_mealItem_8 ic_0 ?_
    refine g_iconst dX4_mealItem_9 ic_5 ?_
    refine g_callV2i (c_num_b) mi_X4_number mv_X4_number ml_X4_222 dX4_mealItem_10 rfl rfl (by decide) (Nat.le_of_ble_eq_true rfl) (Nat.le_of_ble_eq_true rfl) ?_
    refine g_istore_n dX4_mealItem_13 (by decide) rfl ?_
    refine g_aload_n dX4_mealItem_14 rfl ?_
    refine g_iconst dX4_mealItem_15 ic_0 ?_
    refine g_bipush dX4_mealItem_16 bp_7 ?_
    refine g_callV2i (c_num_b) mi_X4_number mv_X4_number ml_X4_222 dX4_mealItem_18 rfl rfl (by decide) (Nat.le_of_ble_eq_true rfl) (Nat.le_of_ble_eq_true rfl) ?_
    refine g_istore_n dX4_mealItem_21 (by decide) rfl ?_
    refine g_aload_n dX4_mealItem_22 rfl ?_
    refine g_getI dX4_mealItem_23 fl_X4_212 rfl rfl ?_
    rw [hX_5]
    refine g_if_ne 43 dX4_mealItem_26 (by decide) (fun c26 => ?_) (fun c26 => ?_)
    · exact g_return dX4_mealItem_43 rfl rfl
    · exact absurd c26 (by decide)
  | true =>
    rw [Bool.not_true]
    have v1 := okN_le o1
    rw [show rdM1 (nx false (cM (h 14)) n) (h 11) q = rdM2 (nx false (cM (h 14)) n) (h 11) q.v (tkN (nx false (cM (h 14)) n) 5 q) from if_pos o1]
    have h2 := ok_tkN (fl := false) (T := 5) hq
    generalize tkN (nx false (cM (h 14)) n) 5 q = q2 at h2 ⊢
    refine g_istore_n dX4_mealItem_6 (by decide) rfl ?_
    refine g_aload_n dX4_mealItem_7 rfl ?_
    refine g_iconst dX4_mealItem_8 ic_0 ?_
    refine g_iconst dX4_mealItem_9 ic_5 ?_
    refine g_callV2i (c_num (T := 5) e0 hn h2 (by decide)) mi_X4_number mv_X4_number ml_X4_222 dX4_mealItem_10 rfl rfl (by decide) (Nat.le_of_ble_eq_true rfl) (Nat.le_of_ble_eq_true rfl) ?_
    cases o2 : okN 5 q2 with
    | false =>
      rw [tkN_f o2, Bool.not_false]
      have eR : rdM2 (nx false (cM (h 14)) n) (h 11) q.v q2 = (false, h 11, q2) := by rw [rdM2, o2]; rfl
      rw [eR]
      show Go _ _ _ _ _ _ _ _ _ _ (hX (setg h 11 (h 11)) q2 true)
      rw [setg_id]
      refine g_istore_n dX4_mealItem_13 (by decide) rfl ?_
      refine g_aload_n dX4_mealItem_14 rfl ?_
      refine g_iconst dX4_mealItem_15 ic_0 ?_
      refine g_bipush dX4_mealItem_16 bp_7 ?_
      refine g_callV2i (c_num_b) mi_X4_number mv_X4_number ml_X4_222 dX4_mealItem_18 rfl rfl (by decide) (Nat.le_of_ble_eq_true rfl) (Nat.le_of_ble_eq_true rfl) ?_
      refine g_istore_n dX4_mealItem_21 (by decide) rfl ?_
      refine g_aload_n dX4_mealItem_22 rfl ?_
      refine g_getI dX4_mealItem_23 fl_X4_212 rfl rfl ?_
      rw [hX_5]
      refine g_if_ne 43 dX4_mealItem_26 (by decide) (fun c26 => ?_) (fun c26 => ?_)
      · exact g_return dX4_mealItem_43 rfl rfl
      · exact absurd c26 (by decide)
    | true =>
      rw [Bool.not_true]
      rw [show rdM2 (nx false (cM (h 14)) n) (h 11) q.v q2 = rdM3 (nx false (cM (h 14)) n) (h 11) q.v q2.v (tkN (nx false (cM (h 14)) n) 5 q2) from if_pos o2]
      have h3 := ok_tkN (fl := false) (T := 5) h2
      generalize tkN (nx false (cM (h 14)) n) 5 q2 = q3 at h3 ⊢
      refine g_istore_n dX4_mealItem_13 (by decide) rfl ?_
      refine g_aload_n dX4_mealItem_14 rfl ?_
      refine g_iconst dX4_mealItem_15 ic_0 ?_
      refine g_bipush dX4_mealItem_16 bp_7 ?_
      refine g_callV2i (c_num (T := 7) e0 hn h3 (by decide)) mi_X4_number mv_X4_number ml_X4_222 dX4_mealItem_18 rfl rfl (by decide) (Nat.le_of_ble_eq_true rfl) (Nat.le_of_ble_eq_true rfl) ?_
      cases o3 : okN 7 q3 with
      | false =>
        rw [tkN_f o3, Bool.not_false]
        have eR : rdM3 (nx false (cM (h 14)) n) (h 11) q.v q2.v q3 = (false, h 11, q3) := by rw [rdM3, o3]; rfl
        rw [eR]
        show Go _ _ _ _ _ _ _ _ _ _ (hX (setg h 11 (h 11)) q3 true)
        rw [setg_id]
        refine g_istore_n dX4_mealItem_21 (by decide) rfl ?_
        refine g_aload_n dX4_mealItem_22 rfl ?_
        refine g_getI dX4_mealItem_23 fl_X4_212 rfl rfl ?_
        rw [hX_5]
        refine g_if_ne 43 dX4_mealItem_26 (by decide) (fun c26 => ?_) (fun c26 => ?_)
        · exact g_return dX4_mealItem_43 rfl rfl
        · exact absurd c26 (by decide)
      | true =>
        rw [Bool.not_true]
        rw [show rdM3 (nx false (cM (h 14)) n) (h 11) q.v q2.v q3 = (true, upd (h 11) (4 + q.v) (10 * nI q2.v + nI q3.v), tkN (nx false (cM (h 14)) n) 7 q3) from if_pos o3]
        refine g_istore_n dX4_mealItem_21 (by decide) rfl ?_
        refine g_aload_n dX4_mealItem_22 rfl ?_
        refine g_getI dX4_mealItem_23 fl_X4_212 rfl rfl ?_
        rw [hX_5]
        refine g_if_ne 43 dX4_mealItem_26 (by decide) (fun c26 => ?_) (fun c26 => ?_)
        · exact absurd rfl c26
        · refine g_aload_n dX4_mealItem_29 rfl ?_
          refine g_getR dX4_mealItem_30 fl_X4_9 rfl rfl ?_
          refine g_iconst dX4_mealItem_33 ic_4 ?_
          refine g_iload_n dX4_mealItem_34 rfl ?_
          refine g_iadd dX4_mealItem_35 ?_
          rw [show (4 : Int32) = nI 4 from rfl, nI_add]
          refine g_bipush dX4_mealItem_36 bp_10 ?_
          refine g_iload_n dX4_mealItem_38 rfl ?_
          refine g_imul dX4_mealItem_39 ?_
          refine g_iload_n dX4_mealItem_40 rfl ?_
          refine g_iadd dX4_mealItem_41 ?_
          refine g_iast0 (4 + q.v) dX4_mealItem_42 rfl rfl (by omega) ?_
          rw [up_setg, hX_g _ _ _ (by decide), setg_hX _ _ _ (by decide)]
          exact g_return dX4_mealItem_43 rfl rfl

