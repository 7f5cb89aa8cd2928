/-! ODDS -/
def pw (b : Int32) : Nat → Int64
  | 0 => 1
  | n + 1 => pw b n * b.toInt64
def shN (c : Nat) : Nat → Nat
  | 0 => 1
  | k + 1 => if k + 1 ≤ 1 then 1 else if 100 % (k + 1) = 0 ∧ c % (k + 1) = 0 then k + 1 else shN c k
def rdM : Nat → Nat → Nat → Nat × Nat
  | 0, g, a => (g, a)
  | k + 1, g, a => if k + 1 ≤ 1 then (g, a) else if g % (k + 1) = 0 ∧ a % (k + 1) = 0 then rdM k (g / (k + 1)) (a / (k + 1)) else rdM k g a
set_option maxRecDepth 100000 in
theorem rd_ok : ∀ c, c ≤ 100 → rdM 100 c 100 = (c / shN c 100, 100 / shN c 100) := by decide +kernel
set_option maxRecDepth 100000 in
theorem sh_pos : ∀ c, c ≤ 100 → 0 < shN c 100 ∧ shN c 100 ≤ 100 := by decide +kernel
theorem cnt_le (p : Nat → Bool) : ∀ n, cntB p n ≤ n
  | 0 => Nat.le_refl _
  | n + 1 => by
    unfold cntB
    have := cnt_le p n
    split <;> omega
def lfts (m : Rw) (e d : Nat) : Nat := cntB (fun b => lft (pG m e 0 (nI b)) e d) 100
def f_odds (m : Rw) (g d n k : Int32) : Option Int64 := if isG m g && isD m d && inB n 0 9 && inB k 0 1 then some (pw (if k = 0 then nI (lfts m (tn g) (tn d) / shN (lfts m (tn g) (tn d)) 100) else nI (100 / shN (lfts m (tn g) (tn d)) 100)) (tn n)) else none
def oLV (o : Option Int64) : Int64 := match o with | some v => v | none => (-1000001 : Int32).toInt64
theorem pG_2 (m : Rw) (e w : Nat) (v v2 : Int32) : pG (pG m e w v) e w v2 = pG m e w v2 := upd_2 _ _ _ _
theorem pG_id (m : Rw) (e w : Nat) : pG m e w (gF m e w) = m := upd_id _ _
set_option maxRecDepth 100000 in
set_option maxHeartbeats 4000000 in
theorem l_X3_power {X : Sc} {h : Hp} {b : Int32} {n : Nat} (hn : n ≤ 9) : ∀ k, k ≤ n → Go X RX3 cX3_power 5 0 5 [.int b, .int (nI n), .long (pw b k), .null, .int (nI k)] [] h (some (.long (pw b n))) h := by
  refine loop_up (n) ?_ ?_
  · refine g_iload dX3_power_5 rfl ?_
    refine g_iload_n dX3_power_7 rfl ?_
    refine g_icmp_ge 22 dX3_power_8 (by decide) (fun c8 => ?_) (fun c8 => ?_)
    · refine g_lload_n dX3_power_22 rfl ?_
      exact g_lreturn dX3_power_23 rfl rfl
    · exact (lp_yes ((rfl : nI n = nI n)) (by omega) c8).elim
  · intro k hk ih
    refine g_iload dX3_power_5 rfl ?_
    refine g_iload_n dX3_power_7 rfl ?_
    refine g_icmp_ge 22 dX3_power_8 (by decide) (fun c8 => ?_) (fun c8 => ?_)
    · exact (lp_no ((rfl : nI n = nI n)) (by omega) hk c8).elim
    · refine g_lload_n dX3_power_11 rfl ?_
      refine g_iload_n dX3_power_12 rfl ?_
      refine g_i2l dX3_power_13 ?_
      refine g_lmul dX3_power_14 ?_
      refine g_lstore_n dX3_power_15 (by decide) rfl ?_
      refine g_iinc dX3_power_16 rfl (ii_n _) (by decide) rfl ?_
      refine g_goto 5 dX3_power_19 (by decide) ?_
      exact ih

set_option maxRecDepth 100000 in
set_option maxHeartbeats 4000000 in
theorem c_X3_power {X : Sc} {h : Hp} {b : Int32} {n : Nat} (hn : n ≤ 9) : Ct X yX3_power cX3_power 5 (some .long) 0 [.int b, .int (nI n)] h (some (.long (pw b n))) h := by
  refine ⟨trivial, ?_⟩
  refine g_lconst dX3_power_0 lq_1 ?_
  refine g_lstore_n dX3_power_1 (by decide) rfl ?_
  refine g_iconst dX3_power_2 ic_0 ?_
  refine g_istore dX3_power_3 (by decide) rfl ?_
  exact l_X3_power hn 0 (Nat.zero_le _)

set_option maxRecDepth 100000 in
set_option maxHeartbeats 4000000 in
theorem l_X3_shared {X : Sc} {h : Hp} {c : Nat} (hc : c ≤ 100) : ∀ k, k ≤ 100 → Go X RX3 cX3_sharedWithAllBents 2 0 3 [.int (nI c), .int (nI k)] [] h (some (.int (nI (shN c k)))) h := by
  intro k
  induction k with
  | zero =>
    intro hk
    refine g_iload_n dX3_sharedWithAllBents_3 rfl ?_
    refine g_iconst dX3_sharedWithAllBents_4 ic_1 ?_
    refine g_icmp_le 29 dX3_sharedWithAllBents_5 (by decide) (fun c5 => ?_) (fun c5 => ?_)
    · refine g_iconst dX3_sharedWithAllBents_29 ic_1 ?_
      exact g_ireturn dX3_sharedWithAllBents_30 rfl rfl
    · exact absurd (by decide) c5
  | succ k ih =>
    intro hk
    by_cases k1 : k + 1 ≤ 1
    · rw [shN, if_pos k1]
      refine g_iload_n dX3_sharedWithAllBents_3 rfl ?_
      refine g_iconst dX3_sharedWithAllBents_4 ic_1 ?_
      refine g_icmp_le 29 dX3_sharedWithAllBents_5 (by decide) (fun c5 => ?_) (fun c5 => ?_)
      · refine g_iconst dX3_sharedWithAllBents_29 ic_1 ?_
        exact g_ireturn dX3_sharedWithAllBents_30 rfl rfl
      · exact absurd (nI_le (b := 1) k1 (by decide)) c5
    · have dn : ¬ nI (k + 1) = 0 := nI_ne0 (by omega) (by omega)
      have e1 : (100 : Int32) - 100 / nI (k + 1) * nI (k + 1) = nI (100 % (k + 1)) := pk_rem (a := 100) (by decide) (by omega) (by omega)
      have e2 : nI c - nI c / nI (k + 1) * nI (k + 1) = nI (c % (k + 1)) := pk_rem (by omega) (by omega) (by omega)
      rw [shN, if_neg k1]
      refine g_iload_n dX3_sharedWithAllBents_3 rfl ?_
      refine g_iconst dX3_sharedWithAllBents_4 ic_1 ?_
      refine g_icmp_le 29 dX3_sharedWithAllBents_5 (by decide) (fun c5 => ?_) (fun c5 => ?_)
      · exact absurd c5 (nI_ge (a := 1) (b := k + 1) (by omega) (by omega))
      · refine g_bipush dX3_sharedWithAllBents_8 bp_100 ?_
        refine g_iload_n dX3_sharedWithAllBents_10 rfl ?_
        refine g_irem dX3_sharedWithAllBents_11 dn ?_
        refine g_st (by rw [e1]) ?_
        refine g_if_ne 23 dX3_sharedWithAllBents_12 (by decide) (fun c12 => ?_) (fun c12 => ?_)
        · rw [if_neg (by first | exact (fun q => c12 (by rw [q.1]; rfl)) | exact (fun q => c18 (by rw [q.2]; rfl)))]
          refine g_iinc dX3_sharedWithAllBents_23 rfl (show nI (k + 1) + Int32.ofInt (-1) = nI k by rw [ic_m1]; exact pk_m1 k) (by decide) rfl ?_
          refine g_goto 3 dX3_sharedWithAllBents_26 (by decide) ?_
          exact ih (by omega)
        · refine g_iload_n dX3_sharedWithAllBents_15 rfl ?_
          refine g_iload_n dX3_sharedWithAllBents_16 rfl ?_
          refine g_irem dX3_sharedWithAllBents_17 dn ?_
          refine g_st (by rw [e2]) ?_
          refine g_if_ne 23 dX3_sharedWithAllBents_18 (by decide) (fun c18 => ?_) (fun c18 => ?_)
          · rw [if_neg (by first | exact (fun q => c12 (by rw [q.1]; rfl)) | exact (fun q => c18 (by rw [q.2]; rfl)))]
            refine g_iinc dX3_sharedWithAllBents_23 rfl (show nI (k + 1) + Int32.ofInt (-1) = nI k by rw [ic_m1]; exact pk_m1 k) (by decide) rfl ?_
            refine g_goto 3 dX3_sharedWithAllBents_26 (by decide) ?_
            exact ih (by omega)
          · have z1 : 100 % (k + 1) = 0 := (nI_eq (b := 0) (Nat.lt_of_lt_of_le (Nat.mod_lt _ (Nat.succ_pos k)) (by omega)) (by decide)).mp c12
            have z2 : c % (k + 1) = 0 := (nI_eq (b := 0) (Nat.lt_of_lt_of_le (Nat.mod_lt _ (Nat.succ_pos k)) (by omega)) (by decide)).mp c18
            rw [if_pos ⟨z1, z2⟩]
            refine g_iload_n dX3_sharedWithAllBents_21 rfl ?_
            exact g_ireturn dX3_sharedWithAllBents_22 rfl rfl

set_option maxRecDepth 100000 in
set_option maxHeartbeats 4000000 in
theorem c_X3_shared {X : Sc} {h : Hp} {c : Nat} (hc : c ≤ 100) : Ct X yX3_sharedWithAllBents cX3_sharedWithAllBents 2 (some .int) 0 [.int (nI c)] h (some (.int (nI (shN c 100)))) h := by
  refine ⟨rfl, ?_⟩
  refine g_bipush dX3_sharedWithAllBents_0 bp_100 ?_
  refine g_istore_n dX3_sharedWithAllBents_2 (by decide) rfl ?_
  exact l_X3_shared hc 100 (by decide)

set_option maxRecDepth 100000 in
set_option maxHeartbeats 4000000 in
theorem l_X3_odds {X : Sc} {h : Hp} (hI : In (h 1)) {e d n : Nat} (he : e < 6) (hd : d < 8) (hn : n ≤ 9) {z : Int32} : ∀ k, k ≤ 100 → Go X RX3 cX3_odds 7 2 67 [.ref 0, .int (nI e), .int (nI d), .int (nI n), .int z, .int (nI (cntB (fun b => lft (pG (h 1) e 0 (nI b)) e d) k)), .int (nI k)] [] (setg h 3 (T8 (h 1) (fun b => pG (h 1) e 0 (nI b)) k)) (some (.long (pw (if z = 0 then nI (lfts (h 1) e d / shN (lfts (h 1) e d) 100) else nI (100 / shN (lfts (h 1) e d) 100)) n))) (setg h 3 (pG (h 1) e 0 (nI 99))) := by
  have hp := sh_pos (lfts (h 1) e d) (cnt_le _ 100)
  have dn : ¬ nI (shN (lfts (h 1) e d) 100) = 0 := nI_ne0 hp.1 (by omega)
  refine loop_up (100) ?_ ?_
  · refine g_iload dX3_odds_67 rfl ?_
    refine g_bipush dX3_odds_69 bp_100 ?_
    refine g_icmp_ge 106 dX3_odds_71 (by decide) (fun c71 => ?_) (fun c71 => ?_)
    · refine g_iload dX3_odds_106 rfl ?_
      refine g_callS1i (c_X3_shared (c := lfts (h 1) e d) (cnt_le _ 100)) mi_X3_sharedWithAllBents ms_X3_sharedWithAllBents ml_X3_203 dX3_odds_108 (by decide) (Nat.le_of_ble_eq_true rfl) (Nat.le_of_ble_eq_true rfl) ?_
      refine g_istore dX3_odds_111 (by decide) rfl ?_
      refine g_iload dX3_odds_113 rfl ?_
      refine g_if_ne 126 dX3_odds_115 (by decide) (fun c115 => ?_) (fun c115 => ?_)
      · refine g_bipush dX3_odds_126 bp_100 ?_
        refine g_iload dX3_odds_128 rfl ?_
        refine g_idiv dX3_odds_130 dn ?_
        refine g_st (st2 := [.int (if z = 0 then nI (lfts (h 1) e d / shN (lfts (h 1) e d) 100) else nI (100 / shN (lfts (h 1) e d) 100))]) (by rw [if_neg c115]; exact congrArg (fun q => [Value.int q]) (pk_div (a := 100) (by decide) hp.1 (by omega))) ?_
        refine g_iload_n dX3_odds_131 rfl ?_
        refine g_callS2i (c_X3_power hn) mi_X3_power ms_X3_power ml_X3_206 dX3_odds_132 (by decide) (Nat.le_of_ble_eq_true rfl) (Nat.le_of_ble_eq_true rfl) ?_
        exact g_lreturn dX3_odds_135 rfl rfl
      · refine g_iload dX3_odds_118 rfl ?_
        refine g_iload dX3_odds_120 rfl ?_
        refine g_idiv dX3_odds_122 dn ?_
        refine g_st (st2 := [.int (if z = 0 then nI (lfts (h 1) e d / shN (lfts (h 1) e d) 100) else nI (100 / shN (lfts (h 1) e d) 100))]) (by rw [if_pos c115]; exact congrArg (fun q => [Value.int q]) (pk_div (by have := cnt_le (fun b => lft (pG (h 1) e 0 (nI b)) e d) 100; show lfts (h 1) e d < _; unfold lfts; omega) hp.1 (by omega))) ?_
        refine g_goto 131 dX3_odds_123 (by decide) ?_
        refine g_iload_n dX3_odds_131 rfl ?_
        refine g_callS2i (c_X3_power hn) mi_X3_power ms_X3_power ml_X3_206 dX3_odds_132 (by decide) (Nat.le_of_ble_eq_true rfl) (Nat.le_of_ble_eq_true rfl) ?_
        exact g_lreturn dX3_odds_135 rfl rfl
    · exact (lp_yes ((rfl : (100 : Int32) = nI 100)) (by decide) c71).elim
  · intro k hk ih
    refine g_iload dX3_odds_67 rfl ?_
    refine g_bipush dX3_odds_69 bp_100 ?_
    refine g_icmp_ge 106 dX3_odds_71 (by decide) (fun c71 => ?_) (fun c71 => ?_)
    · exact (lp_no ((rfl : (100 : Int32) = nI 100)) (by decide) hk c71).elim
    · refine g_aload_n dX3_odds_74 rfl ?_
      refine g_getR dX3_odds_75 fl_X3_19 rfl rfl ?_
      refine g_iload_n dX3_odds_78 rfl ?_
      refine g_iconst dX3_odds_79 ic_0 ?_
      refine g_iload dX3_odds_80 rfl ?_
      refine g_callV3v (c_X0_putGuestFact (w := 0) inn3 he (by decide)) mi_X0_putGuestFact mv_X0_putGuestFact ml_X3_113 dX3_odds_82 rfl rfl (by decide) (Nat.le_of_ble_eq_true rfl) (Nat.le_of_ble_eq_true rfl) ?_
      refine g_h (h2 := setg h 3 (pG (h 1) e 0 (nI k))) (by rw [setg_2, setg_s]; cases k with | zero => rfl | succ k => exact congrArg _ (pG_2 _ _ _ _ _)) ?_
      refine g_aload_n dX3_odds_85 rfl ?_
      refine g_getR dX3_odds_86 fl_X3_19 rfl rfl ?_
      refine g_iload_n dX3_odds_89 rfl ?_
      refine g_iload_n dX3_odds_90 rfl ?_
      refine g_callV2i (c_X0_takesLeft inn3 (by rw [setg_s]; exact hI.pG he (w := 0) (by decide) (show k ≤ 99 by omega)) he hd) mi_X0_takesLeft mv_X0_takesLeft ml_X3_116 dX3_odds_91 rfl rfl (by decide) (Nat.le_of_ble_eq_true rfl) (Nat.le_of_ble_eq_true rfl) ?_
      refine g_st (by rw [setg_s]) ?_
      refine g_if_eq 100 dX3_odds_94 (by decide) (fun c94 => ?_) (fun c94 => ?_)
      · refine g_iinc dX3_odds_100 rfl (ii_n _) (by decide) rfl ?_
        refine g_goto 67 dX3_odds_103 (by decide) ?_
        exact g_lv (by first | (rw [cntB, if_neg (by rw [b0 c94]; decide)]; rfl) | (rw [cntB, if_pos (nb0 c94)]; rfl)) ih
      · refine g_iinc dX3_odds_97 rfl (ii_n _) (by decide) rfl ?_
        refine g_iinc dX3_odds_100 rfl (ii_n _) (by decide) rfl ?_
        refine g_goto 67 dX3_odds_103 (by decide) ?_
        exact g_lv (by first | (rw [cntB, if_neg (by rw [b0 c94]; decide)]; rfl) | (rw [cntB, if_pos (nb0 c94)]; rfl)) ih

def hO (h : Hp) (m3 : Rw) : Option Int64 → Hp
  | some _ => setg h 3 m3
  | none => setg h 5 (inc (h 5) 0)
set_option maxRecDepth 100000 in
set_option maxHeartbeats 4000000 in
theorem c_X3_odds {X : Sc} {h : Hp} (hI : In (h 1)) {g d n k : Int32} : Ct X yX3_odds cX3_odds 7 (some .long) 2 [.ref 0, .int g, .int d, .int n, .int k] h (some (.long (oLV (f_odds (h 1) g d n k)))) (hO h (pG (h 1) (tn g) 0 (nI 99)) (f_odds (h 1) g d n k)) := by
  refine ⟨trivial, ?_⟩
  refine g_aload_n dX3_odds_0 rfl ?_
  refine g_getR dX3_odds_1 fl_X3_12 rfl rfl ?_
  refine g_iload_n dX3_odds_4 rfl ?_
  refine g_callV1i (c_X0_isGuest inn1) mi_X0_isGuest mv_X0_isGuest ml_X3_101 dX3_odds_5 rfl rfl (by decide) (Nat.le_of_ble_eq_true rfl) (Nat.le_of_ble_eq_true rfl) ?_
  refine g_if_eq 42 dX3_odds_8 (by decide) (fun c8 => ?_) (fun c8 => ?_)
  · refine g_aload_n dX3_odds_42 rfl ?_
    refine g_ldc dX3_odds_43 lc_X3_52 ?_
    refine g_callV1i (c_X3_found 0 (by decide) (by decide)) mi_X3_found mv_X3_found ml_X3_53 dX3_odds_45 rfl rfl (by decide) (Nat.le_of_ble_eq_true rfl) (Nat.le_of_ble_eq_true rfl) ?_
    refine g_i2l dX3_odds_48 ?_
    exact g_lreturn dX3_odds_49 (by rw [show f_odds (h 1) g d n k = none from by unfold f_odds; rw [if_neg]; intro q; simp only [Bool.and_eq_true] at q; first | (rw [b0 c8] at q; exact absurd q.1.1.1 (by decide)) | (rw [b0 c19] at q; exact absurd q.1.1.2 (by decide)) | (rw [b0 c29] at q; exact absurd q.1.2 (by decide)) | (rw [b0 c39] at q; exact absurd q.2 (by decide))]; rfl) (by rw [show f_odds (h 1) g d n k = none from by unfold f_odds; rw [if_neg]; intro q; simp only [Bool.and_eq_true] at q; first | (rw [b0 c8] at q; exact absurd q.1.1.1 (by decide)) | (rw [b0 c19] at q; exact absurd q.1.1.2 (by decide)) | (rw [b0 c29] at q; exact absurd q.1.2 (by decide)) | (rw [b0 c39] at q; exact absurd q.2 (by decide))]; rfl)
  · refine g_aload_n dX3_odds_11 rfl ?_
    refine g_getR dX3_odds_12 fl_X3_12 rfl rfl ?_
    refine g_iload_n dX3_odds_15 rfl ?_
    refine g_callV1i (c_X0_isDish inn1) mi_X0_isDish mv_X0_isDish ml_X3_88 dX3_odds_16 rfl rfl (by decide) (Nat.le_of_ble_eq_true rfl) (Nat.le_of_ble_eq_true rfl) ?_
    refine g_if_eq 42 dX3_odds_19 (by decide) (fun c19 => ?_) (fun c19 => ?_)
    · refine g_aload_n dX3_odds_42 rfl ?_
      refine g_ldc dX3_odds_43 lc_X3_52 ?_
      refine g_callV1i (c_X3_found 0 (by decide) (by decide)) mi_X3_found mv_X3_found ml_X3_53 dX3_odds_45 rfl rfl (by decide) (Nat.le_of_ble_eq_true rfl) (Nat.le_of_ble_eq_true rfl) ?_
      refine g_i2l dX3_odds_48 ?_
      exact g_lreturn dX3_odds_49 (by rw [show f_odds (h 1) g d n k = none from by unfold f_odds; rw [if_neg]; intro q; simp only [Bool.and_eq_true] at q; first | (rw [b0 c8] at q; exact absurd q.1.1.1 (by decide)) | (rw [b0 c19] at q; exact absurd q.1.1.2 (by decide)) | (rw [b0 c29] at q; exact absurd q.1.2 (by decide)) | (rw [b0 c39] at q; exact absurd q.2 (by decide))]; rfl) (by rw [show f_odds (h 1) g d n k = none from by unfold f_odds; rw [if_neg]; intro q; simp only [Bool.and_eq_true] at q; first | (rw [b0 c8] at q; exact absurd q.1.1.1 (by decide)) | (rw [b0 c19] at q; exact absurd q.1.1.2 (by decide)) | (rw [b0 c29] at q; exact absurd q.1.2 (by decide)) | (rw [b0 c39] at q; exact absurd q.2 (by decide))]; rfl)
    · refine g_iload_n dX3_odds_22 rfl ?_
      refine g_iconst dX3_odds_23 ic_0 ?_
      refine g_bipush dX3_odds_24 bp_9 ?_
      refine g_callS3i (c_X3_within) mi_X3_within ms_X3_within ml_X3_48 dX3_odds_26 (by decide) (Nat.le_of_ble_eq_true rfl) (Nat.le_of_ble_eq_true rfl) ?_
      refine g_if_eq 42 dX3_odds_29 (by decide) (fun c29 => ?_) (fun c29 => ?_)
      · refine g_aload_n dX3_odds_42 rfl ?_
        refine g_ldc dX3_odds_43 lc_X3_52 ?_
        refine g_callV1i (c_X3_found 0 (by decide) (by decide)) mi_X3_found mv_X3_found ml_X3_53 dX3_odds_45 rfl rfl (by decide) (Nat.le_of_ble_eq_true rfl) (Nat.le_of_ble_eq_true rfl) ?_
        refine g_i2l dX3_odds_48 ?_
        exact g_lreturn dX3_odds_49 (by rw [show f_odds (h 1) g d n k = none from by unfold f_odds; rw [if_neg]; intro q; simp only [Bool.and_eq_true] at q; first | (rw [b0 c8] at q; exact absurd q.1.1.1 (by decide)) | (rw [b0 c19] at q; exact absurd q.1.1.2 (by decide)) | (rw [b0 c29] at q; exact absurd q.1.2 (by decide)) | (rw [b0 c39] at q; exact absurd q.2 (by decide))]; rfl) (by rw [show f_odds (h 1) g d n k = none from by unfold f_odds; rw [if_neg]; intro q; simp only [Bool.and_eq_true] at q; first | (rw [b0 c8] at q; exact absurd q.1.1.1 (by decide)) | (rw [b0 c19] at q; exact absurd q.1.1.2 (by decide)) | (rw [b0 c29] at q; exact absurd q.1.2 (by decide)) | (rw [b0 c39] at q; exact absurd q.2 (by decide))]; rfl)
      · refine g_iload dX3_odds_32 rfl ?_
        refine g_iconst dX3_odds_34 ic_0 ?_
        refine g_iconst dX3_odds_35 ic_1 ?_
        refine g_callS3i (c_X3_within) mi_X3_within ms_X3_within ml_X3_48 dX3_odds_36 (by decide) (Nat.le_of_ble_eq_true rfl) (Nat.le_of_ble_eq_true rfl) ?_
        refine g_if_ne 50 dX3_odds_39 (by decide) (fun c39 => ?_) (fun c39 => ?_)
        · obtain ⟨e, le, he, te, rfl⟩ := isG_of2 hI (nb0 c8)
          obtain ⟨i, li, hi, ti, rfl⟩ := isD_of2 hI (nb0 c19)
          obtain ⟨j, hj, tj, rfl⟩ := inB_of 9 (by decide) (nb0 c29)
          refine g_aload_n dX3_odds_50 rfl ?_
          refine g_getR dX3_odds_51 fl_X3_19 rfl rfl ?_
          refine g_aload_n dX3_odds_54 rfl ?_
          refine g_getR dX3_odds_55 fl_X3_12 rfl rfl ?_
          refine g_callV1v (c_X0_become inn3 inn1 (by decide) (by decide)) mi_X0_become mv_X0_become ml_X3_169 dX3_odds_58 rfl rfl (by decide) (Nat.le_of_ble_eq_true rfl) (Nat.le_of_ble_eq_true rfl) ?_
          refine g_iconst dX3_odds_61 ic_0 ?_
          refine g_istore dX3_odds_62 (by decide) rfl ?_
          refine g_iconst dX3_odds_64 ic_0 ?_
          refine g_istore dX3_odds_65 (by decide) rfl ?_
          have ef : f_odds (h 1) (nI e) (nI i) (nI j) k = some (pw (if k = 0 then nI (lfts (h 1) e i / shN (lfts (h 1) e i) 100) else nI (100 / shN (lfts (h 1) e i) 100)) j) := by rw [f_odds, if_pos (by rw [nb0 c8, nb0 c19, nb0 c29, nb0 c39]; rfl), te, ti, tj]
          rw [ef, te]
          simp only [oLV, hO]
          exact l_X3_odds hI he hi hj 0 (by decide)
        · refine g_aload_n dX3_odds_42 rfl ?_
          refine g_ldc dX3_odds_43 lc_X3_52 ?_
          refine g_callV1i (c_X3_found 0 (by decide) (by decide)) mi_X3_found mv_X3_found ml_X3_53 dX3_odds_45 rfl rfl (by decide) (Nat.le_of_ble_eq_true rfl) (Nat.le_of_ble_eq_true rfl) ?_
          refine g_i2l dX3_odds_48 ?_
          exact g_lreturn dX3_odds_49 (by rw [show f_odds (h 1) g d n k = none from by unfold f_odds; rw [if_neg]; intro q; simp only [Bool.and_eq_true] at q; first | (rw [b0 c8] at q; exact absurd q.1.1.1 (by decide)) | (rw [b0 c19] at q; exact absurd q.1.1.2 (by decide)) | (rw [b0 c29] at q; exact absurd q.1.2 (by decide)) | (rw [b0 c39] at q; exact absurd q.2 (by decide))]; rfl) (by rw [show f_odds (h 1) g d n k = none from by unfold f_odds; rw [if_neg]; intro q; simp only [Bool.and_eq_true] at q; first | (rw [b0 c8] at q; exact absurd q.1.1.1 (by decide)) | (rw [b0 c19] at q; exact absurd q.1.1.2 (by decide)) | (rw [b0 c29] at q; exact absurd q.1.2 (by decide)) | (rw [b0 c39] at q; exact absurd q.2 (by decide))]; rfl)

set_option maxRecDepth 100000 in
set_option maxHeartbeats 4000000 in
theorem p_X4_odds {X : Sc} {h : Hp} {e d n : Nat} (hn : n ≤ 9) {z b x y : Int32} : ∀ k, k ≤ n → Go X RX4 cX4_odds 11 3 162 [.ref 28, .int (nI e), .int (nI d), .int (nI n), .int z, .int b, .int x, .int y, .long (pw (if z = 0 then x else y) k), .null, .int (nI k)] [] h (some (.long (pw (if z = 0 then x else y) n))) h := by
  refine loop_up (n) ?_ ?_
  · refine g_iload dX4_odds_162 rfl ?_
    refine g_iload_n dX4_odds_164 rfl ?_
    refine g_icmp_ge 193 dX4_odds_165 (by decide) (fun c165 => ?_) (fun c165 => ?_)
    · refine g_lload dX4_odds_193 rfl ?_
      exact g_lreturn dX4_odds_195 rfl rfl
    · exact (lp_yes ((rfl : nI n = nI n)) (by omega) c165).elim
  · intro k hk ih
    refine g_iload dX4_odds_162 rfl ?_
    refine g_iload_n dX4_odds_164 rfl ?_
    refine g_icmp_ge 193 dX4_odds_165 (by decide) (fun c165 => ?_) (fun c165 => ?_)
    · exact (lp_no ((rfl : nI n = nI n)) (by omega) hk c165).elim
    · refine g_lload dX4_odds_168 rfl ?_
      refine g_iload dX4_odds_170 rfl ?_
      refine g_if_ne 181 dX4_odds_172 (by decide) (fun c172 => ?_) (fun c172 => ?_)
      · refine g_iload dX4_odds_181 rfl ?_
        refine g_i2l dX4_odds_183 ?_
        refine g_lmul dX4_odds_184 ?_
        refine g_lstore dX4_odds_185 (by decide) rfl ?_
        refine g_iinc dX4_odds_187 rfl (ii_n _) (by decide) rfl ?_
        refine g_goto 162 dX4_odds_190 (by decide) ?_
        exact g_lv (by first | (rw [if_pos c172]; rfl) | (rw [if_neg c172]; rfl)) ih
      · refine g_iload dX4_odds_175 rfl ?_
        refine g_i2l dX4_odds_177 ?_
        refine g_goto 184 dX4_odds_178 (by decide) ?_
        refine g_lmul dX4_odds_184 ?_
        refine g_lstore dX4_odds_185 (by decide) rfl ?_
        refine g_iinc dX4_odds_187 rfl (ii_n _) (by decide) rfl ?_
        refine g_goto 162 dX4_odds_190 (by decide) ?_
        exact g_lv (by first | (rw [if_pos c172]; rfl) | (rw [if_neg c172]; rfl)) ih

theorem rd_y {k x y : Nat} (k1 : ¬ k + 1 ≤ 1) (z1 : x % (k + 1) = 0) (z2 : y % (k + 1) = 0) : rdM (k + 1) x y = rdM k (x / (k + 1)) (y / (k + 1)) := by rw [rdM, if_neg k1, if_pos ⟨z1, z2⟩]
theorem rd_n {k x y : Nat} (k1 : ¬ k + 1 ≤ 1) (z : ¬ (x % (k + 1) = 0 ∧ y % (k + 1) = 0)) : rdM (k + 1) x y = rdM k x y := by rw [rdM, if_neg k1, if_neg z]
set_option maxRecDepth 100000 in
set_option maxHeartbeats 4000000 in
theorem r_X4_odds {X : Sc} {h : Hp} {e d n : Nat} (hn : n ≤ 9) {z b : Int32} : ∀ (k x y : Nat), k ≤ 100 → x ≤ 100 → y ≤ 100 → Go X RX4 cX4_odds 11 3 114 [.ref 28, .int (nI e), .int (nI d), .int (nI n), .int z, .int b, .int (nI x), .int (nI y), .int (nI k), .null, .null] [] h (some (.long (pw (if z = 0 then nI (rdM k x y).1 else nI (rdM k x y).2) n))) h := by
  intro k
  induction k with
  | zero =>
    intro x y hk hx hy
    refine g_iload dX4_odds_114 rfl ?_
    refine g_iconst dX4_odds_116 ic_1 ?_
    refine g_icmp_le 156 dX4_odds_117 (by decide) (fun c117 => ?_) (fun c117 => ?_)
    · refine g_lconst dX4_odds_156 lq_1 ?_
      refine g_lstore dX4_odds_157 (by decide) rfl ?_
      refine g_iconst dX4_odds_159 ic_0 ?_
      refine g_istore dX4_odds_160 (by decide) rfl ?_
      exact p_X4_odds hn 0 (Nat.zero_le _)
    · exact absurd (by decide) c117
  | succ k ih =>
    intro x y hk hx hy
    by_cases k1 : k + 1 ≤ 1
    · rw [rdM, if_pos k1]
      refine g_iload dX4_odds_114 rfl ?_
      refine g_iconst dX4_odds_116 ic_1 ?_
      refine g_icmp_le 156 dX4_odds_117 (by decide) (fun c117 => ?_) (fun c117 => ?_)
      · refine g_lconst dX4_odds_156 lq_1 ?_
        refine g_lstore dX4_odds_157 (by decide) rfl ?_
        refine g_iconst dX4_odds_159 ic_0 ?_
        refine g_istore dX4_odds_160 (by decide) rfl ?_
        exact p_X4_odds hn 0 (Nat.zero_le _)
      · exact absurd (nI_le (b := 1) k1 (by decide)) c117
    · have dn : ¬ nI (k + 1) = 0 := nI_ne0 (by omega) (by omega)
      have e1 : nI x - nI x / nI (k + 1) * nI (k + 1) = nI (x % (k + 1)) := pk_rem (by omega) (by omega) (by omega)
      have e2 : nI y - nI y / nI (k + 1) * nI (k + 1) = nI (y % (k + 1)) := pk_rem (by omega) (by omega) (by omega)
      refine g_iload dX4_odds_114 rfl ?_
      refine g_iconst dX4_odds_116 ic_1 ?_
      refine g_icmp_le 156 dX4_odds_117 (by decide) (fun c117 => ?_) (fun c117 => ?_)
      · exact absurd c117 (nI_ge (a := 1) (b := k + 1) (by omega) (by omega))
      · refine g_iload dX4_odds_120 rfl ?_
        refine g_iload dX4_odds_122 rfl ?_
        refine g_irem dX4_odds_124 dn ?_
        refine g_st (by rw [e1]) ?_
        refine g_if_ne 150 dX4_odds_125 (by decide) (fun c125 => ?_) (fun c125 => ?_)
        · first
          | rw [rd_n k1 (fun q => c125 (by rw [q.1]; rfl))]
          | rw [rd_n k1 (fun q => c133 (by rw [q.2]; rfl))]
          | skip
          refine g_iinc dX4_odds_150 rfl (show nI (k + 1) + Int32.ofInt (-1) = nI k by rw [ic_m1]; exact pk_m1 k) (by decide) rfl ?_
          refine g_goto 114 dX4_odds_153 (by decide) ?_
          first
          | exact ih (x / (k + 1)) (y / (k + 1)) (by omega) lx ly
          | exact ih x y (by omega) hx hy
        · refine g_iload dX4_odds_128 rfl ?_
          refine g_iload dX4_odds_130 rfl ?_
          refine g_irem dX4_odds_132 dn ?_
          refine g_st (by rw [e2]) ?_
          refine g_if_ne 150 dX4_odds_133 (by decide) (fun c133 => ?_) (fun c133 => ?_)
          · first
            | rw [rd_n k1 (fun q => c125 (by rw [q.1]; rfl))]
            | rw [rd_n k1 (fun q => c133 (by rw [q.2]; rfl))]
            | skip
            refine g_iinc dX4_odds_150 rfl (show nI (k + 1) + Int32.ofInt (-1) = nI k by rw [ic_m1]; exact pk_m1 k) (by decide) rfl ?_
            refine g_goto 114 dX4_odds_153 (by decide) ?_
            first
            | exact ih (x / (k + 1)) (y / (k + 1)) (by omega) lx ly
            | exact ih x y (by omega) hx hy
          · have z1 : x % (k + 1) = 0 := (nI_eq (b := 0) (Nat.lt_of_lt_of_le (Nat.mod_lt _ (Nat.succ_pos k)) (by omega)) (by decide)).mp c125
            have z2 : y % (k + 1) = 0 := (nI_eq (b := 0) (Nat.lt_of_lt_of_le (Nat.mod_lt _ (Nat.succ_pos k)) (by omega)) (by decide)).mp c133
            have lx := Nat.le_trans (Nat.div_le_self x (k + 1)) hx
            have ly := Nat.le_trans (Nat.div_le_self y (k + 1)) hy
            rw [rd_y k1 z1 z2]
            refine g_iload dX4_odds_136 rfl ?_
            refine g_iload dX4_odds_138 rfl ?_
            refine g_idiv dX4_odds_140 dn ?_
            refine g_st (by rw [pk_div (by omega) (by omega) (by omega)]) ?_
            refine g_istore dX4_odds_141 (by decide) rfl ?_
            refine g_iload dX4_odds_143 rfl ?_
            refine g_iload dX4_odds_145 rfl ?_
            refine g_idiv dX4_odds_147 dn ?_
            refine g_st (by rw [pk_div (by omega) (by omega) (by omega)]) ?_
            refine g_istore dX4_odds_148 (by decide) rfl ?_
            first
            | rw [rd_n k1 (fun q => c125 (by rw [q.1]; rfl))]
            | rw [rd_n k1 (fun q => c133 (by rw [q.2]; rfl))]
            | skip
            refine g_iinc dX4_odds_150 rfl (show nI (k + 1) + Int32.ofInt (-1) = nI k by rw [ic_m1]; exact pk_m1 k) (by decide) rfl ?_
            refine g_goto 114 dX4_odds_153 (by decide) ?_
            first
            | exact ih (x / (k + 1)) (y / (k + 1)) (by omega) lx ly
            | exact ih x y (by omega) hx hy

set_option maxRecDepth 100000 in
set_option maxHeartbeats 4000000 in
theorem l_X4_odds {X : Sc} {h : Hp} (hI : In (h 11)) {e d n : Nat} (he : e < 6) (hd : d < 8) (hn : n ≤ 9) {z : Int32} : ∀ k, k ≤ 100 → Go X RX4 cX4_odds 11 3 58 [.ref 28, .int (nI e), .int (nI d), .int (nI n), .int z, .int (gF (h 11) e 0), .int (nI (cntB (fun b => lft (pG (h 11) e 0 (nI b)) e d) k)), .int (nI k), .null, .null, .null] [] (setg h 11 (T8 (h 11) (fun b => pG (h 11) e 0 (nI b)) k)) (some (.long (pw (if z = 0 then nI (lfts (h 11) e d / shN (lfts (h 11) e d) 100) else nI (100 / shN (lfts (h 11) e d) 100)) n))) h := by
  refine loop_up (100) ?_ ?_
  · refine g_iload dX4_odds_58 rfl ?_
    refine g_bipush dX4_odds_60 bp_99 ?_
    refine g_icmp_gt 98 dX4_odds_62 (by decide) (fun c62 => ?_) (fun c62 => ?_)
    · refine g_aload_n dX4_odds_98 rfl ?_
      refine g_iload_n dX4_odds_99 rfl ?_
      refine g_iconst dX4_odds_100 ic_0 ?_
      refine g_iload dX4_odds_101 rfl ?_
      refine g_callV3v (c_X4_lets (w := 0) he (by decide)) mi_X4_lets mv_X4_lets ml_X4_74 dX4_odds_103 rfl rfl (by decide) (Nat.le_of_ble_eq_true rfl) (Nat.le_of_ble_eq_true rfl) ?_
      refine g_h (h2 := h) (by rw [setg_2, setg_s]; show setg h 11 (pG (pG (h 11) e 0 (nI 99)) e 0 (gF (h 11) e 0)) = h; rw [pG_2, pG_id, setg_id]) ?_
      refine g_bipush dX4_odds_106 bp_100 ?_
      refine g_istore dX4_odds_108 (by decide) rfl ?_
      refine g_bipush dX4_odds_110 bp_100 ?_
      refine g_istore dX4_odds_112 (by decide) rfl ?_
      have q := r_X4_odds (X := X) (h := h) (e := e) (d := d) hn (z := z) (b := gF (h 11) e 0) 100 (lfts (h 11) e d) 100 (by decide) (cnt_le _ 100) (by decide)
      rw [rd_ok (lfts (h 11) e d) (cnt_le _ 100)] at q
      exact q
    · exact absurd (nI_lt (a := 99) (b := 100) (by decide) (by decide)) c62
  · intro k hk ih
    refine g_iload dX4_odds_58 rfl ?_
    refine g_bipush dX4_odds_60 bp_99 ?_
    refine g_icmp_gt 98 dX4_odds_62 (by decide) (fun c62 => ?_) (fun c62 => ?_)
    · exact absurd c62 (nI_nlt (a := 99) (b := k) (by omega) (by decide))
    · refine g_aload_n dX4_odds_65 rfl ?_
      refine g_iload_n dX4_odds_66 rfl ?_
      refine g_iconst dX4_odds_67 ic_0 ?_
      refine g_iload dX4_odds_68 rfl ?_
      refine g_callV3v (c_X4_lets (w := 0) he (by decide)) mi_X4_lets mv_X4_lets ml_X4_74 dX4_odds_70 rfl rfl (by decide) (Nat.le_of_ble_eq_true rfl) (Nat.le_of_ble_eq_true rfl) ?_
      refine g_h (h2 := setg h 11 (pG (h 11) e 0 (nI k))) (by rw [setg_2, setg_s]; cases k with | zero => rfl | succ k => exact congrArg _ (pG_2 _ _ _ _ _)) ?_
      refine g_iload dX4_odds_73 rfl ?_
      refine g_aload_n dX4_odds_75 rfl ?_
      refine g_iload_n dX4_odds_76 rfl ?_
      refine g_iload_n dX4_odds_77 rfl ?_
      refine g_callV2i (c_X4_isLeft (by rw [setg_s]; exact hI.pG he (w := 0) (by decide) (show k ≤ 99 by omega)) he hd) mi_X4_isLeft mv_X4_isLeft ml_X4_93 dX4_odds_78 rfl rfl (by decide) (Nat.le_of_ble_eq_true rfl) (Nat.le_of_ble_eq_true rfl) ?_
      refine g_st (by rw [setg_s]) ?_
      refine g_if_eq 88 dX4_odds_81 (by decide) (fun c81 => ?_) (fun c81 => ?_)
      · refine g_iconst dX4_odds_88 ic_0 ?_
        refine g_iadd dX4_odds_89 ?_
        refine g_istore dX4_odds_90 (by decide) rfl ?_
        refine g_iinc dX4_odds_92 rfl (ii_n _) (by decide) rfl ?_
        refine g_goto 58 dX4_odds_95 (by decide) ?_
        exact g_lv (by first | (rw [cntB, if_neg (by rw [b0 c81]; decide), Int32.add_zero]; rfl) | (rw [cntB, if_pos (nb0 c81), nI_1]; rfl)) ih
      · refine g_iconst dX4_odds_84 ic_1 ?_
        refine g_goto 89 dX4_odds_85 (by decide) ?_
        refine g_iadd dX4_odds_89 ?_
        refine g_istore dX4_odds_90 (by decide) rfl ?_
        refine g_iinc dX4_odds_92 rfl (ii_n _) (by decide) rfl ?_
        refine g_goto 58 dX4_odds_95 (by decide) ?_
        exact g_lv (by first | (rw [cntB, if_neg (by rw [b0 c81]; decide), Int32.add_zero]; rfl) | (rw [cntB, if_pos (nb0 c81), nI_1]; rfl)) ih

def hOM (h : Hp) : Option Int64 → Hp
  | some _ => h
  | none => setg h 15 (inc (h 15) 0)
set_option maxRecDepth 100000 in
set_option maxHeartbeats 4000000 in
theorem c_X4_odds {X : Sc} {h : Hp} (hI : In (h 11)) {g d n k : Int32} : Ct X yX4_odds cX4_odds 11 (some .long) 3 [.ref 28, .int g, .int d, .int n, .int k] h (some (.long (oLV (f_odds (h 11) g d n k)))) (hOM h (f_odds (h 11) g d n k)) := by
  refine ⟨trivial, ?_⟩
  refine g_aload_n dX4_odds_0 rfl ?_
  refine g_iload_n dX4_odds_1 rfl ?_
  refine g_callV1i (c_X4_isGuest hI) mi_X4_isGuest mv_X4_isGuest ml_X4_86 dX4_odds_2 rfl rfl (by decide) (Nat.le_of_ble_eq_true rfl) (Nat.le_of_ble_eq_true rfl) ?_
  refine g_if_eq 36 dX4_odds_5 (by decide) (fun c5 => ?_) (fun c5 => ?_)
  · refine g_aload_n dX4_odds_36 rfl ?_
    refine g_ldc dX4_odds_37 lc_X4_34 ?_
    refine g_callV1i (c_X4_finds 0 (by decide) (by decide)) mi_X4_finds mv_X4_finds ml_X4_36 dX4_odds_39 rfl rfl (by decide) (Nat.le_of_ble_eq_true rfl) (Nat.le_of_ble_eq_true rfl) ?_
    refine g_i2l dX4_odds_42 ?_
    exact g_lreturn dX4_odds_43 (by rw [show f_odds (h 11) g d n k = none from by unfold f_odds; rw [if_neg]; intro q; simp only [Bool.and_eq_true] at q; first | (rw [b0 c5] at q; exact absurd q.1.1.1 (by decide)) | (rw [b0 c13] at q; exact absurd q.1.1.2 (by decide)) | (rw [b0 c23] at q; exact absurd q.1.2 (by decide)) | (rw [b0 c33] at q; exact absurd q.2 (by decide))]; rfl) (by rw [show f_odds (h 11) g d n k = none from by unfold f_odds; rw [if_neg]; intro q; simp only [Bool.and_eq_true] at q; first | (rw [b0 c5] at q; exact absurd q.1.1.1 (by decide)) | (rw [b0 c13] at q; exact absurd q.1.1.2 (by decide)) | (rw [b0 c23] at q; exact absurd q.1.2 (by decide)) | (rw [b0 c33] at q; exact absurd q.2 (by decide))]; rfl)
  · refine g_aload_n dX4_odds_8 rfl ?_
    refine g_iload_n dX4_odds_9 rfl ?_
    refine g_callV1i (c_X4_isDish hI) mi_X4_isDish mv_X4_isDish ml_X4_80 dX4_odds_10 rfl rfl (by decide) (Nat.le_of_ble_eq_true rfl) (Nat.le_of_ble_eq_true rfl) ?_
    refine g_if_eq 36 dX4_odds_13 (by decide) (fun c13 => ?_) (fun c13 => ?_)
    · refine g_aload_n dX4_odds_36 rfl ?_
      refine g_ldc dX4_odds_37 lc_X4_34 ?_
      refine g_callV1i (c_X4_finds 0 (by decide) (by decide)) mi_X4_finds mv_X4_finds ml_X4_36 dX4_odds_39 rfl rfl (by decide) (Nat.le_of_ble_eq_true rfl) (Nat.le_of_ble_eq_true rfl) ?_
      refine g_i2l dX4_odds_42 ?_
      exact g_lreturn dX4_odds_43 (by rw [show f_odds (h 11) g d n k = none from by unfold f_odds; rw [if_neg]; intro q; simp only [Bool.and_eq_true] at q; first | (rw [b0 c5] at q; exact absurd q.1.1.1 (by decide)) | (rw [b0 c13] at q; exact absurd q.1.1.2 (by decide)) | (rw [b0 c23] at q; exact absurd q.1.2 (by decide)) | (rw [b0 c33] at q; exact absurd q.2 (by decide))]; rfl) (by rw [show f_odds (h 11) g d n k = none from by unfold f_odds; rw [if_neg]; intro q; simp only [Bool.and_eq_true] at q; first | (rw [b0 c5] at q; exact absurd q.1.1.1 (by decide)) | (rw [b0 c13] at q; exact absurd q.1.1.2 (by decide)) | (rw [b0 c23] at q; exact absurd q.1.2 (by decide)) | (rw [b0 c33] at q; exact absurd q.2 (by decide))]; rfl)
    · refine g_iload_n dX4_odds_16 rfl ?_
      refine g_iconst dX4_odds_17 ic_0 ?_
      refine g_bipush dX4_odds_18 bp_9 ?_
      refine g_callS3i (c_X4_in) mi_X4_in ms_X4_in ml_X4_40 dX4_odds_20 (by decide) (Nat.le_of_ble_eq_true rfl) (Nat.le_of_ble_eq_true rfl) ?_
      refine g_if_eq 36 dX4_odds_23 (by decide) (fun c23 => ?_) (fun c23 => ?_)
      · refine g_aload_n dX4_odds_36 rfl ?_
        refine g_ldc dX4_odds_37 lc_X4_34 ?_
        refine g_callV1i (c_X4_finds 0 (by decide) (by decide)) mi_X4_finds mv_X4_finds ml_X4_36 dX4_odds_39 rfl rfl (by decide) (Nat.le_of_ble_eq_true rfl) (Nat.le_of_ble_eq_true rfl) ?_
        refine g_i2l dX4_odds_42 ?_
        exact g_lreturn dX4_odds_43 (by rw [show f_odds (h 11) g d n k = none from by unfold f_odds; rw [if_neg]; intro q; simp only [Bool.and_eq_true] at q; first | (rw [b0 c5] at q; exact absurd q.1.1.1 (by decide)) | (rw [b0 c13] at q; exact absurd q.1.1.2 (by decide)) | (rw [b0 c23] at q; exact absurd q.1.2 (by decide)) | (rw [b0 c33] at q; exact absurd q.2 (by decide))]; rfl) (by rw [show f_odds (h 11) g d n k = none from by unfold f_odds; rw [if_neg]; intro q; simp only [Bool.and_eq_true] at q; first | (rw [b0 c5] at q; exact absurd q.1.1.1 (by decide)) | (rw [b0 c13] at q; exact absurd q.1.1.2 (by decide)) | (rw [b0 c23] at q; exact absurd q.1.2 (by decide)) | (rw [b0 c33] at q; exact absurd q.2 (by decide))]; rfl)
      · refine g_iload dX4_odds_26 rfl ?_
        refine g_iconst dX4_odds_28 ic_0 ?_
        refine g_iconst dX4_odds_29 ic_1 ?_
        refine g_callS3i (c_X4_in) mi_X4_in ms_X4_in ml_X4_40 dX4_odds_30 (by decide) (Nat.le_of_ble_eq_true rfl) (Nat.le_of_ble_eq_true rfl) ?_
        refine g_if_ne 44 dX4_odds_33 (by decide) (fun c33 => ?_) (fun c33 => ?_)
        · obtain ⟨e, le, he, te, rfl⟩ := isG_of2 hI (nb0 c5)
          obtain ⟨i, li, hi, ti, rfl⟩ := isD_of2 hI (nb0 c13)
          obtain ⟨j, hj, tj, rfl⟩ := inB_of 9 (by decide) (nb0 c23)
          refine g_aload_n dX4_odds_44 rfl ?_
          refine g_iload_n dX4_odds_45 rfl ?_
          refine g_iconst dX4_odds_46 ic_0 ?_
          refine g_callV2i (c_X4_his (w := 0) he (by decide)) mi_X4_his mv_X4_his ml_X4_44 dX4_odds_47 rfl rfl (by decide) (Nat.le_of_ble_eq_true rfl) (Nat.le_of_ble_eq_true rfl) ?_
          refine g_istore dX4_odds_50 (by decide) rfl ?_
          refine g_iconst dX4_odds_52 ic_0 ?_
          refine g_istore dX4_odds_53 (by decide) rfl ?_
          refine g_iconst dX4_odds_55 ic_0 ?_
          refine g_istore dX4_odds_56 (by decide) rfl ?_
          have ef : f_odds (h 11) (nI e) (nI i) (nI j) k = some (pw (if k = 0 then nI (lfts (h 11) e i / shN (lfts (h 11) e i) 100) else nI (100 / shN (lfts (h 11) e i) 100)) j) := by rw [f_odds, if_pos (by rw [nb0 c5, nb0 c13, nb0 c23, nb0 c33]; rfl), te, ti, tj]
          rw [ef]
          simp only [oLV, hOM]
          exact g_h (setg_id h 11).symm (l_X4_odds hI he hi hj 0 (by decide))
        · refine g_aload_n dX4_odds_36 rfl ?_
          refine g_ldc dX4_odds_37 lc_X4_34 ?_
          refine g_callV1i (c_X4_finds 0 (by decide) (by decide)) mi_X4_finds mv_X4_finds ml_X4_36 dX4_odds_39 rfl rfl (by decide) (Nat.le_of_ble_eq_true rfl) (Nat.le_of_ble_eq_true rfl) ?_
          refine g_i2l dX4_odds_42 ?_
          exact g_lreturn dX4_odds_43 (by rw [show f_odds (h 11) g d n k = none from by unfold f_odds; rw [if_neg]; intro q; simp only [Bool.and_eq_true] at q; first | (rw [b0 c5] at q; exact absurd q.1.1.1 (by decide)) | (rw [b0 c13] at q; exact absurd q.1.1.2 (by decide)) | (rw [b0 c23] at q; exact absurd q.1.2 (by decide)) | (rw [b0 c33] at q; exact absurd q.2 (by decide))]; rfl) (by rw [show f_odds (h 11) g d n k = none from by unfold f_odds; rw [if_neg]; intro q; simp only [Bool.and_eq_true] at q; first | (rw [b0 c5] at q; exact absurd q.1.1.1 (by decide)) | (rw [b0 c13] at q; exact absurd q.1.1.2 (by decide)) | (rw [b0 c23] at q; exact absurd q.1.2 (by decide)) | (rw [b0 c33] at q; exact absurd q.2 (by decide))]; rfl)

