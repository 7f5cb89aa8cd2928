/-! WHICH TO STRIKE OFF -/
def pcN (x : Nat) : Nat := (if x.testBit 0 then 1 else 0) + (if x.testBit 1 then 1 else 0) + (if x.testBit 2 then 1 else 0) + (if x.testBit 3 then 1 else 0) + (if x.testBit 4 then 1 else 0) + (if x.testBit 5 then 1 else 0) + (if x.testBit 6 then 1 else 0) + (if x.testBit 7 then 1 else 0)
def ush (x y : Int32) : Int32 := (x.toUInt32 >>> (y.toUInt32 &&& Int32.toUInt32 31)).toInt32
def bc1 (i : Int32) : Int32 := i - (ush i 1 &&& 1431655765)
def bc2 (i : Int32) : Int32 := (i &&& 858993459) + (ush i 2 &&& 858993459)
def bc3 (i : Int32) : Int32 := (i + ush i 4) &&& 252645135
def bc4 (i : Int32) : Int32 := i + ush i 8
def bc5 (i : Int32) : Int32 := i + ush i 16
theorem bc_ok : ∀ x, x < 256 → bc5 (bc4 (bc3 (bc2 (bc1 (nI x))))) &&& 63 = nI (pcN x) := by decide +kernel
theorem pc_le : ∀ D, D ≤ 8 → ∀ x, x < 2 ^ D → pcN x ≤ D := by decide +kernel
theorem pc_8 : ∀ x, x < 256 → pcN x ≤ 8 := by decide +kernel
def bitB (s d : Nat) : Bool := decide ((nI s >>> (nI d &&& 31)) &&& 1 = 1)
theorem bit_v : ∀ s, s < 256 → ∀ d, d < 8 → (nI s >>> (nI d &&& 31)) &&& 1 = if bitB s d = true then 1 else 0 := by decide +kernel
def strk (m : Rw) (s : Nat) : Nat → Rw
  | 0 => m
  | k + 1 => if bitB s k = true then pD (strk m s k) k 5 1 else strk m s k
theorem In.strk {m : Rw} (h : In m) (s : Nat) : ∀ k, k ≤ 8 → In (strk m s k)
  | 0, _ => h
  | k + 1, hk => by
    unfold Jvm.Pilot.CForkInnLaw_law_r3082_bfc7c5.strk
    split
    · exact (In.strk h s k (by omega)).pD (x := 1) (w := 5) (by omega) (by decide) (by decide)
    · exact In.strk h s k (by omega)
theorem nD_strk (m : Rw) (s : Nat) : ∀ k, nD (strk m s k) = nD m
  | 0 => rfl
  | k + 1 => by
    unfold strk
    split
    · unfold pD; rw [nD_upd (by omega)]; exact nD_strk m s k
    · exact nD_strk m s k
def p_str (m : Rw) (e n : Nat) (t : Int32) (s : Nat) : Bool := !decide (gF (daysR (strk m s (nD m)) n) e 1 = t)
/-- the set of fewest, of these the least -/
def f1str (p : Nat → Bool) (N : Nat) : Nat → Nat → Option Nat
  | _, 0 => none
  | s, k + 1 => match fst1 (fun x => decide (pcN x = s) && p x) 0 N with | some x => some x | none => f1str p N (s + 1) k
def f_strike (m : Rw) (g t n : Int32) : Oc := if isG m g && inB t 0 11 && inB n 0 20 then oF m (f1str (p_str m (tn g) (tn n) t) (2 ^ nD m) 0 (nD m + 1)) else .inl 0
set_option maxRecDepth 100000 in
set_option maxHeartbeats 4000000 in
theorem c_J6_bitCount {X : Sc} {h : Hp} {x : Nat} (hx : x < 256) : Ct X yJ6_bitCount_0f7a4 cJ6_bitCount_0f7a4 1 (some .int) 0 [.int (nI x)] h (some (.int (nI (pcN x)))) h := by
  refine ⟨rfl, ?_⟩
  refine g_iload_n dJ6_bitCount_0f7a4_0 rfl ?_
  refine g_iload_n dJ6_bitCount_0f7a4_1 rfl ?_
  refine g_iconst dJ6_bitCount_0f7a4_2 ic_1 ?_
  refine g_iushr dJ6_bitCount_0f7a4_3 ?_
  refine g_ldcw dJ6_bitCount_0f7a4_4 lc_J6_265 ?_
  refine g_iand dJ6_bitCount_0f7a4_7 ?_
  refine g_isub dJ6_bitCount_0f7a4_8 ?_
  change Go _ _ _ _ _ _ _ [.int (bc1 (nI x))] _ _ _
  refine g_istore_n dJ6_bitCount_0f7a4_9 (by decide) rfl ?_
  refine g_iload_n dJ6_bitCount_0f7a4_10 rfl ?_
  refine g_ldcw dJ6_bitCount_0f7a4_11 lc_J6_266 ?_
  refine g_iand dJ6_bitCount_0f7a4_14 ?_
  refine g_iload_n dJ6_bitCount_0f7a4_15 rfl ?_
  refine g_iconst dJ6_bitCount_0f7a4_16 ic_2 ?_
  refine g_iushr dJ6_bitCount_0f7a4_17 ?_
  refine g_ldcw dJ6_bitCount_0f7a4_18 lc_J6_266 ?_
  refine g_iand dJ6_bitCount_0f7a4_21 ?_
  refine g_iadd dJ6_bitCount_0f7a4_22 ?_
  change Go _ _ _ _ _ _ _ [.int (bc2 (bc1 (nI x)))] _ _ _
  refine g_istore_n dJ6_bitCount_0f7a4_23 (by decide) rfl ?_
  refine g_iload_n dJ6_bitCount_0f7a4_24 rfl ?_
  refine g_iload_n dJ6_bitCount_0f7a4_25 rfl ?_
  refine g_iconst dJ6_bitCount_0f7a4_26 ic_4 ?_
  refine g_iushr dJ6_bitCount_0f7a4_27 ?_
  refine g_iadd dJ6_bitCount_0f7a4_28 ?_
  refine g_ldcw dJ6_bitCount_0f7a4_29 lc_J6_267 ?_
  refine g_iand dJ6_bitCount_0f7a4_32 ?_
  change Go _ _ _ _ _ _ _ [.int (bc3 (bc2 (bc1 (nI x))))] _ _ _
  refine g_istore_n dJ6_bitCount_0f7a4_33 (by decide) rfl ?_
  refine g_iload_n dJ6_bitCount_0f7a4_34 rfl ?_
  refine g_iload_n dJ6_bitCount_0f7a4_35 rfl ?_
  refine g_bipush dJ6_bitCount_0f7a4_36 bp_8 ?_
  refine g_iushr dJ6_bitCount_0f7a4_38 ?_
  refine g_iadd dJ6_bitCount_0f7a4_39 ?_
  change Go _ _ _ _ _ _ _ [.int (bc4 (bc3 (bc2 (bc1 (nI x)))))] _ _ _
  refine g_istore_n dJ6_bitCount_0f7a4_40 (by decide) rfl ?_
  refine g_iload_n dJ6_bitCount_0f7a4_41 rfl ?_
  refine g_iload_n dJ6_bitCount_0f7a4_42 rfl ?_
  refine g_bipush dJ6_bitCount_0f7a4_43 bp_16 ?_
  refine g_iushr dJ6_bitCount_0f7a4_45 ?_
  refine g_iadd dJ6_bitCount_0f7a4_46 ?_
  change Go _ _ _ _ _ _ _ [.int (bc5 (bc4 (bc3 (bc2 (bc1 (nI x))))))] _ _ _
  refine g_istore_n dJ6_bitCount_0f7a4_47 (by decide) rfl ?_
  refine g_iload_n dJ6_bitCount_0f7a4_48 rfl ?_
  refine g_bipush dJ6_bitCount_0f7a4_49 bp_63 ?_
  refine g_iand dJ6_bitCount_0f7a4_51 ?_
  exact g_ireturn dJ6_bitCount_0f7a4_52 (by rw [bc_ok x hx]) rfl

set_option maxRecDepth 100000 in
set_option maxHeartbeats 4000000 in
theorem l_X3_keepsAway {X : Sc} {h : Hp} (hI : In (h 1)) {e n s : Nat} (he : e < 6) (hn : n ≤ 20) (hs : s < 256) {t : Int32} : ∀ k, k ≤ nD (h 1) → Go X RX3 cX3_keepsAway 6 5 14 [.ref 0, .int (nI s), .int (nI e), .int t, .int (nI n), .int (nI k)] [] (setg h 3 (strk (h 1) s k)) (some (.int (bI (p_str (h 1) e n t s)))) (setg h 3 (daysR (strk (h 1) s (nD (h 1))) n)) := by
  have hN := hI.nD.1
  refine loop_up (nD (h 1)) ?_ ?_
  · refine g_iload dX3_keepsAway_14 rfl ?_
    refine g_aload_n dX3_keepsAway_16 rfl ?_
    refine g_getR dX3_keepsAway_17 fl_X3_19 rfl rfl ?_
    refine g_getI dX3_keepsAway_20 fl_X3_70 rfl rfl ?_
    refine g_st (by rw [setg_s, show strk (h 1) s (nD (h 1)) 2 = nI (nD (strk (h 1) s (nD (h 1)))) from (hI.strk s _ (by omega)).nD.2, nD_strk]) ?_
    refine g_icmp_ge 53 dX3_keepsAway_23 (by decide) (fun c23 => ?_) (fun c23 => ?_)
    · refine g_aload_n dX3_keepsAway_53 rfl ?_
      refine g_getR dX3_keepsAway_54 fl_X3_19 rfl rfl ?_
      refine g_iload dX3_keepsAway_57 rfl ?_
      refine g_callV1v (c_X0_passDays inn3 (by rw [setg_s]; exact hI.strk s _ (by omega)) (by omega)) mi_X0_passDays mv_X0_passDays ml_X3_143 dX3_keepsAway_59 rfl rfl (by decide) (Nat.le_of_ble_eq_true rfl) (Nat.le_of_ble_eq_true rfl) ?_
      refine g_h (h2 := setg h 3 (daysR (strk (h 1) s (nD (h 1))) n)) (by rw [setg_s, setg_2]) ?_
      refine g_aload_n dX3_keepsAway_62 rfl ?_
      refine g_getR dX3_keepsAway_63 fl_X3_19 rfl rfl ?_
      refine g_iload_n dX3_keepsAway_66 rfl ?_
      refine g_iconst dX3_keepsAway_67 ic_1 ?_
      refine g_callV2i (c_X0_guestFact (w := 1) inn3 he (by decide)) mi_X0_guestFact mv_X0_guestFact ml_X3_107 dX3_keepsAway_68 rfl rfl (by decide) (Nat.le_of_ble_eq_true rfl) (Nat.le_of_ble_eq_true rfl) ?_
      refine g_iload_n dX3_keepsAway_71 rfl ?_
      refine g_icmp_eq 79 dX3_keepsAway_72 (by decide) (fun c72 => ?_) (fun c72 => ?_)
      · refine g_iconst dX3_keepsAway_79 ic_0 ?_
        exact g_ireturn dX3_keepsAway_80 (by rw [setg_s] at c72; simp [p_str, c72, bI]) rfl
      · refine g_iconst dX3_keepsAway_75 ic_1 ?_
        refine g_goto 80 dX3_keepsAway_76 (by decide) ?_
        exact g_ireturn dX3_keepsAway_80 (by rw [setg_s] at c72; simp [p_str, c72, bI]) rfl
    · exact absurd (nI_le (Nat.le_refl _) (by omega)) c23
  · intro k hk ih
    refine g_iload dX3_keepsAway_14 rfl ?_
    refine g_aload_n dX3_keepsAway_16 rfl ?_
    refine g_getR dX3_keepsAway_17 fl_X3_19 rfl rfl ?_
    refine g_getI dX3_keepsAway_20 fl_X3_70 rfl rfl ?_
    refine g_st (by rw [setg_s, show strk (h 1) s k 2 = nI (nD (strk (h 1) s k)) from (hI.strk s k (by omega)).nD.2, nD_strk]) ?_
    refine g_icmp_ge 53 dX3_keepsAway_23 (by decide) (fun c23 => ?_) (fun c23 => ?_)
    · exact absurd c23 (nI_ge hk (by omega))
    · refine g_iload_n dX3_keepsAway_26 rfl ?_
      refine g_iload dX3_keepsAway_27 rfl ?_
      refine g_ishr dX3_keepsAway_29 ?_
      refine g_iconst dX3_keepsAway_30 ic_1 ?_
      refine g_iand dX3_keepsAway_31 ?_
      refine g_iconst dX3_keepsAway_32 ic_1 ?_
      refine g_icmp_ne 47 dX3_keepsAway_33 (by decide) (fun c33 => ?_) (fun c33 => ?_)
      · refine g_iinc dX3_keepsAway_47 rfl (ii_n _) (by decide) rfl ?_
        refine g_goto 14 dX3_keepsAway_50 (by decide) ?_
        exact g_h (by first | (rw [strk, if_neg (by unfold bitB; rw [decide_eq_false c33]; decide)]) | (rw [strk, if_pos (by unfold bitB; exact decide_eq_true c33), setg_s, setg_2])) ih
      · refine g_aload_n dX3_keepsAway_36 rfl ?_
        refine g_getR dX3_keepsAway_37 fl_X3_19 rfl rfl ?_
        refine g_iload dX3_keepsAway_40 rfl ?_
        refine g_iconst dX3_keepsAway_42 ic_5 ?_
        refine g_iconst dX3_keepsAway_43 ic_1 ?_
        refine g_callV3v (c_X0_putDishFact (w := 5) inn3 (by omega) (by decide)) mi_X0_putDishFact mv_X0_putDishFact ml_X3_98 dX3_keepsAway_44 rfl rfl (by decide) (Nat.le_of_ble_eq_true rfl) (Nat.le_of_ble_eq_true rfl) ?_
        refine g_iinc dX3_keepsAway_47 rfl (ii_n _) (by decide) rfl ?_
        refine g_goto 14 dX3_keepsAway_50 (by decide) ?_
        exact g_h (by first | (rw [strk, if_neg (by unfold bitB; rw [decide_eq_false c33]; decide)]) | (rw [strk, if_pos (by unfold bitB; exact decide_eq_true c33), setg_s, setg_2])) ih

set_option maxRecDepth 100000 in
set_option maxHeartbeats 4000000 in
theorem c_X3_keepsAway {X : Sc} {h : Hp} (hI : In (h 1)) {e n s : Nat} (he : e < 6) (hn : n ≤ 20) (hs : s < 256) {t : Int32} : Ct X yX3_keepsAway cX3_keepsAway 6 (some .boolean) 5 [.ref 0, .int (nI s), .int (nI e), .int t, .int (nI n)] h (some (.int (bI (p_str (h 1) e n t s)))) (setg h 3 (daysR (strk (h 1) s (nD (h 1))) n)) := by
  refine ⟨rok_b _, ?_⟩
  refine g_aload_n dX3_keepsAway_0 rfl ?_
  refine g_getR dX3_keepsAway_1 fl_X3_19 rfl rfl ?_
  refine g_aload_n dX3_keepsAway_4 rfl ?_
  refine g_getR dX3_keepsAway_5 fl_X3_12 rfl rfl ?_
  refine g_callV1v (c_X0_become inn3 inn1 (by decide) (by decide)) mi_X0_become mv_X0_become ml_X3_169 dX3_keepsAway_8 rfl rfl (by decide) (Nat.le_of_ble_eq_true rfl) (Nat.le_of_ble_eq_true rfl) ?_
  refine g_iconst dX3_keepsAway_11 ic_0 ?_
  refine g_istore dX3_keepsAway_12 (by decide) rfl ?_
  exact l_X3_keepsAway hI he hn hs 0 (Nat.zero_le _)

theorem sh1 : ∀ D, D ≤ 8 → (1 : Int32) <<< (nI D &&& 31) = nI (2 ^ D) := by decide +kernel
theorem p2_le {D : Nat} (h : D ≤ 8) : 2 ^ D ≤ 256 := Nat.le_trans (Nat.pow_le_pow_right (by decide) h) (by decide)
set_option maxRecDepth 100000 in
set_option maxHeartbeats 4000000 in
theorem i_X3_strike {X : Sc} {h : Hp} (hI : In (h 1)) {e n z : Nat} (he : e < 6) (hn : n ≤ 20) (hz : z ≤ 8) {t : Int32} {r : Option Value} {F : Rw → Hp} (K : fst1 (fun x => decide (pcN x = z) && p_str (h 1) e n t x) 0 (2 ^ nD (h 1)) = none → ∀ t0 : Rw, ∃ T : Rw, Go X RX3 cX3_strike 7 6 102 [.ref 0, .int (nI e), .int t, .int (nI n), .int (nI (2 ^ nD (h 1))), .int (nI z), .int (nI (2 ^ nD (h 1)))] [] (setg h 3 t0) r (F T)) (Y : ∀ x, fst1 (fun x => decide (pcN x = z) && p_str (h 1) e n t x) 0 (2 ^ nD (h 1)) = some x → r = some (.int (nI x)) ∧ ∀ T : Rw, F T = setg h 3 T) : ∀ k, k ≤ 2 ^ nD (h 1) → fst1 (fun x => decide (pcN x = z) && p_str (h 1) e n t x) 0 (2 ^ nD (h 1)) = fst1 (fun x => decide (pcN x = z) && p_str (h 1) e n t x) k (2 ^ nD (h 1) - k) → ∀ t0 : Rw, ∃ T : Rw, Go X RX3 cX3_strike 7 6 64 [.ref 0, .int (nI e), .int t, .int (nI n), .int (nI (2 ^ nD (h 1))), .int (nI z), .int (nI k)] [] (setg h 3 t0) r (F T) := by
  have hN := p2_le hI.nD.1
  refine loop_up (2 ^ nD (h 1)) ?_ ?_
  · intro hy t0
    obtain ⟨T, q⟩ := K (by rw [hy, fst_0]) t0
    refine ⟨T, ?_⟩
    refine g_iload dX3_strike_64 rfl ?_
    refine g_iload dX3_strike_66 rfl ?_
    refine g_icmp_ge 102 dX3_strike_68 (by decide) (fun c68 => ?_) (fun c68 => ?_)
    · exact q
    · exact absurd (nI_le (Nat.le_refl _) (by omega)) c68
  · intro k hk ih hy t0
    by_cases c1 : pcN k = z
    · cases c2 : p_str (h 1) e n t k with
      | true =>
        have fy := fst_y (p := (fun x => decide (pcN x = z) && p_str (h 1) e n t x)) (k := k) (n := 2 ^ nD (h 1)) (by rw [decide_eq_true c1, c2]; rfl) hk
        have yy := Y k (by rw [hy, fy])
        refine ⟨daysR (strk (h 1) k (nD (h 1))) n, ?_⟩
        refine g_iload dX3_strike_64 rfl ?_
        refine g_iload dX3_strike_66 rfl ?_
        refine g_icmp_ge 102 dX3_strike_68 (by decide) (fun c68 => ?_) (fun c68 => ?_)
        · exact absurd c68 (nI_ge hk (by omega))
        · refine g_iload dX3_strike_71 rfl ?_
          refine g_callS1i (c_J6_bitCount (by omega)) mi_J6_bitCount_0f7a4 ms_J6_bitCount_0f7a4 ml_X3_184 dX3_strike_73 (by decide) (Nat.le_of_ble_eq_true rfl) (Nat.le_of_ble_eq_true rfl) ?_
          refine g_iload dX3_strike_76 rfl ?_
          refine g_icmp_ne 96 dX3_strike_78 (by decide) (fun c78 => ?_) (fun c78 => ?_)
          · exact absurd (by rw [c1]) c78
          · refine g_aload_n dX3_strike_81 rfl ?_
            refine g_iload dX3_strike_82 rfl ?_
            refine g_iload_n dX3_strike_84 rfl ?_
            refine g_iload_n dX3_strike_85 rfl ?_
            refine g_iload_n dX3_strike_86 rfl ?_
            refine g_callV4i (c_X3_keepsAway (by rw [setg_n _ _ (by decide)]; exact hI) he hn (by omega)) mi_X3_keepsAway mv_X3_keepsAway ml_X3_189 dX3_strike_87 rfl rfl (by decide) (Nat.le_of_ble_eq_true rfl) (Nat.le_of_ble_eq_true rfl) ?_
            refine g_h (h2 := setg h 3 (daysR (strk (h 1) k (nD (h 1))) n)) (by rw [setg_2, setg_n _ _ (by decide)]) ?_
            refine g_st (st2 := [.int (bI (p_str (h 1) e n t k))]) (by rw [setg_n _ _ (by decide)]) ?_
            refine g_if_eq 96 dX3_strike_90 (by decide) (fun c90 => ?_) (fun c90 => ?_)
            · exact absurd c90 (by rw [c2]; decide)
            · refine g_iload dX3_strike_93 rfl ?_
              exact g_ireturn dX3_strike_95 yy.1.symm (yy.2 _).symm
      | false =>
        obtain ⟨T, q⟩ := ih (by rw [hy, fst_n (by rw [c2, Bool.and_false]) hk]) (daysR (strk (h 1) k (nD (h 1))) n)
        refine ⟨T, ?_⟩
        refine g_iload dX3_strike_64 rfl ?_
        refine g_iload dX3_strike_66 rfl ?_
        refine g_icmp_ge 102 dX3_strike_68 (by decide) (fun c68 => ?_) (fun c68 => ?_)
        · exact absurd c68 (nI_ge hk (by omega))
        · refine g_iload dX3_strike_71 rfl ?_
          refine g_callS1i (c_J6_bitCount (by omega)) mi_J6_bitCount_0f7a4 ms_J6_bitCount_0f7a4 ml_X3_184 dX3_strike_73 (by decide) (Nat.le_of_ble_eq_true rfl) (Nat.le_of_ble_eq_true rfl) ?_
          refine g_iload dX3_strike_76 rfl ?_
          refine g_icmp_ne 96 dX3_strike_78 (by decide) (fun c78 => ?_) (fun c78 => ?_)
          · exact absurd (by rw [c1]) c78
          · refine g_aload_n dX3_strike_81 rfl ?_
            refine g_iload dX3_strike_82 rfl ?_
            refine g_iload_n dX3_strike_84 rfl ?_
            refine g_iload_n dX3_strike_85 rfl ?_
            refine g_iload_n dX3_strike_86 rfl ?_
            refine g_callV4i (c_X3_keepsAway (by rw [setg_n _ _ (by decide)]; exact hI) he hn (by omega)) mi_X3_keepsAway mv_X3_keepsAway ml_X3_189 dX3_strike_87 rfl rfl (by decide) (Nat.le_of_ble_eq_true rfl) (Nat.le_of_ble_eq_true rfl) ?_
            refine g_h (h2 := setg h 3 (daysR (strk (h 1) k (nD (h 1))) n)) (by rw [setg_2, setg_n _ _ (by decide)]) ?_
            refine g_st (st2 := [.int (bI (p_str (h 1) e n t k))]) (by rw [setg_n _ _ (by decide)]) ?_
            refine g_if_eq 96 dX3_strike_90 (by decide) (fun c90 => ?_) (fun c90 => ?_)
            · refine g_iinc dX3_strike_96 rfl (ii_n _) (by decide) rfl ?_
              refine g_goto 64 dX3_strike_99 (by decide) ?_
              exact q
            · exact absurd (by rw [c2]; rfl) c90
    · obtain ⟨T, q⟩ := ih (by rw [hy, fst_n (by rw [decide_eq_false c1, Bool.false_and]) hk]) t0
      refine ⟨T, ?_⟩
      refine g_iload dX3_strike_64 rfl ?_
      refine g_iload dX3_strike_66 rfl ?_
      refine g_icmp_ge 102 dX3_strike_68 (by decide) (fun c68 => ?_) (fun c68 => ?_)
      · exact absurd c68 (nI_ge hk (by omega))
      · refine g_iload dX3_strike_71 rfl ?_
        refine g_callS1i (c_J6_bitCount (by omega)) mi_J6_bitCount_0f7a4 ms_J6_bitCount_0f7a4 ml_X3_184 dX3_strike_73 (by decide) (Nat.le_of_ble_eq_true rfl) (Nat.le_of_ble_eq_true rfl) ?_
        refine g_iload dX3_strike_76 rfl ?_
        refine g_icmp_ne 96 dX3_strike_78 (by decide) (fun c78 => ?_) (fun c78 => ?_)
        · refine g_iinc dX3_strike_96 rfl (ii_n _) (by decide) rfl ?_
          refine g_goto 64 dX3_strike_99 (by decide) ?_
          exact q
        · exact absurd ((nI_eq (by have := pc_8 k (by omega); omega) (by omega)).mp c78) c1

set_option maxRecDepth 100000 in
set_option maxHeartbeats 4000000 in
theorem l_X3_strike {X : Sc} {h : Hp} (hI : In (h 1)) {e n : Nat} (he : e < 6) (hn : n ≤ 20) {t : Int32} {g0 : Value} : ∀ (k z : Nat), k + z = nD (h 1) + 1 → f1str (p_str (h 1) e n t) (2 ^ nD (h 1)) 0 (nD (h 1) + 1) = f1str (p_str (h 1) e n t) (2 ^ nD (h 1)) z k → ∀ t0 : Rw, ∃ T : Rw, Go X RX3 cX3_strike 7 6 49 [.ref 0, .int (nI e), .int t, .int (nI n), .int (nI (2 ^ nD (h 1))), .int (nI z), .null] [] (setg h 3 t0) (some (.int (oV (oF (h 1) (f1str (p_str (h 1) e n t) (2 ^ nD (h 1)) 0 (nD (h 1) + 1)))))) (oX h T (f1str (p_str (h 1) e n t) (2 ^ nD (h 1)) 0 (nD (h 1) + 1))) := by
  intro k
  have hN := hI.nD.1
  have e2 := hI.nD.2
  induction k with
  | zero =>
    intro z hz hy t0
    refine ⟨t0, ?_⟩
    rw [hy, show f1str (p_str (h 1) e n t) (2 ^ nD (h 1)) z 0 = none from rfl]
    rw [Nat.zero_add] at hz
    subst hz
    refine g_iload dX3_strike_49 rfl ?_
    refine g_aload_n dX3_strike_51 rfl ?_
    refine g_getR dX3_strike_52 fl_X3_12 rfl rfl ?_
    refine g_getI dX3_strike_55 fl_X3_70 rfl rfl ?_
    refine g_st (by rw [setg_n _ _ (by decide), e2]) ?_
    refine g_icmp_gt 108 dX3_strike_58 (by decide) (fun c58 => ?_) (fun c58 => ?_)
    · refine g_aload_n dX3_strike_108 rfl ?_
      refine g_ldc dX3_strike_109 lc_X3_176 ?_
      refine g_callV1i (c_X3_found 3 (by decide) (by decide)) mi_X3_found mv_X3_found ml_X3_53 dX3_strike_111 rfl rfl (by decide) (Nat.le_of_ble_eq_true rfl) (Nat.le_of_ble_eq_true rfl) ?_
      exact g_ireturn dX3_strike_114 rfl rfl
    · exact absurd (nI_lt (Nat.lt_succ_self _) (by omega)) c58
  | succ k ih =>
    intro z hz hy t0
    have ii := i_X3_strike (X := X) hI (z := z) he hn (by omega) (t := t) (r := some (.int (oV (oF (h 1) (f1str (p_str (h 1) e n t) (2 ^ nD (h 1)) 0 (nD (h 1) + 1)))))) (F := fun T => oX h T (f1str (p_str (h 1) e n t) (2 ^ nD (h 1)) 0 (nD (h 1) + 1))) (fun fn t1 => by
      obtain ⟨T, q⟩ := ih (z + 1) (by omega) (by rw [hy, f1str, fn]) t1
      refine ⟨T, ?_⟩
      refine g_iinc dX3_strike_102 rfl (ii_n _) (by decide) rfl ?_
      refine g_goto 49 dX3_strike_105 (by decide) ?_
      refine g_mask [true, true, true, true, true, true, false] ?_
      exact q) (fun x fx => by rw [hy, f1str, fx]; exact ⟨rfl, fun _ => rfl⟩) 0 (Nat.zero_le _) rfl t0
    obtain ⟨T, q⟩ := ii
    refine ⟨T, ?_⟩
    refine g_iload dX3_strike_49 rfl ?_
    refine g_aload_n dX3_strike_51 rfl ?_
    refine g_getR dX3_strike_52 fl_X3_12 rfl rfl ?_
    refine g_getI dX3_strike_55 fl_X3_70 rfl rfl ?_
    refine g_st (by rw [setg_n _ _ (by decide), e2]) ?_
    refine g_icmp_gt 108 dX3_strike_58 (by decide) (fun c58 => ?_) (fun c58 => ?_)
    · exact absurd c58 (nI_nlt (by omega) (by omega))
    · refine g_iconst dX3_strike_61 ic_0 ?_
      refine g_istore dX3_strike_62 (by decide) rfl ?_
      exact q

