def ibB (u : Rw) (n k : Nat) (lo hi : Int32) : Bool := decide (k < n) && inB (u (10 + k)) lo hi

set_option maxRecDepth 100000 in
set_option maxHeartbeats 4000000 in
theorem c_X4_isByte {X : Sc} {h : Hp} {n : Nat} (e0 : h 14 0 = nI n) (hn : n ≤ 120) {k : Nat} (hk : k < 2 ^ 31) {lo hi : Int32} : Ct X yX4_isByte cX4_isByte 4 (some .boolean) 1 [.ref 28, .int (nI k), .int lo, .int hi] h (some (.int (bI (ibB (h 14) n k lo hi)))) h := by
  refine ⟨rok_b _, ?_⟩
  refine g_iload_n dX4_isByte_0 rfl ?_
  refine g_aload_n dX4_isByte_1 rfl ?_
  refine g_getI dX4_isByte_2 fl_X4_184 rfl rfl ?_
  rw [e0]
  refine g_icmp_ge 26 dX4_isByte_5 (by decide) (fun c5 => ?_) (fun c5 => ?_)
  · have z : ¬ k < n := fun z => nI_ge z (by omega) c5
    refine g_iconst dX4_isByte_26 ic_0 ?_
    exact g_ireturn dX4_isByte_27 (by rw [ibB, decide_eq_false z]; rfl) rfl
  · have z : k < n := Nat.lt_of_not_le (fun q => c5 (nI_le q (by omega)))
    refine g_aload_n dX4_isByte_8 rfl ?_
    refine g_getR dX4_isByte_9 fl_X4_31 rfl rfl ?_
    refine g_iload_n dX4_isByte_12 rfl ?_
    refine g_iald k dX4_isByte_13 rfl rfl (by omega) ?_
    refine g_iload_n dX4_isByte_14 rfl ?_
    refine g_iload_n dX4_isByte_15 rfl ?_
    refine g_callS3i (c_X4_in) mi_X4_in ms_X4_in ml_X4_40 dX4_isByte_16 (by decide) (Nat.le_of_ble_eq_true rfl) (Nat.le_of_ble_eq_true rfl) ?_
    refine g_if_eq 26 dX4_isByte_19 (by decide) (fun c19 => ?_) (fun c19 => ?_)
    · have z2 : inB (h 14 (10 + k)) lo hi = false := (bI_0 _).mp c19
      refine g_iconst dX4_isByte_26 ic_0 ?_
      exact g_ireturn dX4_isByte_27 (by rw [ibB, decide_eq_true z, z2]; rfl) rfl
    · have z2 : inB (h 14 (10 + k)) lo hi = true := by cases z2 : inB (h 14 (10 + k)) lo hi with
        | true => rfl
        | false => exact absurd (by rw [z2]; rfl) c19
      refine g_iconst dX4_isByte_22 ic_1 ?_
      refine g_goto 27 dX4_isByte_23 (by decide) ?_
      exact g_ireturn dX4_isByte_27 (by rw [ibB, decide_eq_true z, z2]; rfl) rfl

set_option maxRecDepth 100000 in
set_option maxHeartbeats 4000000 in
theorem l_X4_isName {X : Sc} {h : Hp} {k0 b0 v0 z0 : Int32} {s w z : Nat} (hw : w < 13) (hz7 : z ≤ 7) (hs : s + z ≤ 120) : ∀ k, k ≤ z → mN (h 14) s w k = true → Go X RX4 cX4_isName 5 0 34 [.ref 28, .int (nI w), .int (nI z), .int 1, .int (nI k)] [] (hV h k0 (nI s) b0 v0 z0) (some (.int (bI (mN (h 14) s w z)))) (hV h k0 (nI s) b0 v0 z0) := by
  refine loop_up z ?_ ?_
  · intro hy
    refine g_iload dX4_isName_34 rfl ?_
    refine g_iload_n dX4_isName_36 rfl ?_
    refine g_icmp_ge 82 dX4_isName_37 (by decide) (fun c37 => ?_) (fun c37 => ?_)
    · refine g_iload_n dX4_isName_82 rfl ?_
      exact g_ireturn dX4_isName_83 (by rw [hy]; rfl) rfl
    · exact (lp_yes rfl (by omega) c37).elim
  · intro k hk ih hy
    refine g_iload dX4_isName_34 rfl ?_
    refine g_iload_n dX4_isName_36 rfl ?_
    refine g_icmp_ge 82 dX4_isName_37 (by decide) (fun c37 => ?_) (fun c37 => ?_)
    · exact (lp_no rfl (by omega) hk c37).elim
    · refine g_iload_n dX4_isName_40 rfl ?_
      refine g_if_eq 82 dX4_isName_41 (by decide) (fun c41 => ?_) (fun c41 => ?_)
      · exact absurd c41 (by decide)
      · refine g_gets (i := 103) dX4_isName_44 ro3 fs_X4_188 ?_
        refine g_bipush dX4_isName_47 bp_7 ?_
        refine g_iload_n dX4_isName_49 rfl ?_
        refine g_imul dX4_isName_50 ?_
        refine g_iload dX4_isName_51 rfl ?_
        refine g_iadd dX4_isName_53 ?_
        rw [show (7 : Int32) = nI 7 from rfl, pk_mul, nI_add]
        refine g_ildr (7 * w + k) dX4_isName_54 ro3 rfl (by show 7 * w + k < 91; omega) (by decide) ?_
        refine g_aload_n dX4_isName_55 rfl ?_
        refine g_getR dX4_isName_56 fl_X4_31 rfl rfl ?_
        refine g_aload_n dX4_isName_59 rfl ?_
        refine g_getI dX4_isName_60 fl_X4_191 rfl rfl ?_
        rw [hV_2]
        refine g_iload dX4_isName_63 rfl ?_
        refine g_iadd dX4_isName_65 ?_
        rw [nI_add]
        refine g_iald (s + k) dX4_isName_66 rfl rfl (by omega) ?_
        rw [hV_b]
        refine g_icmp_ne 74 dX4_isName_67 (by decide) (fun c67 => ?_) (fun c67 => ?_)
        · have e1 : mN (h 14) s w (k + 1) = false := by
            show (mN (h 14) s w k && decide (nmes.getD (7 * w + k) 0 = h 14 (10 + (s + k)))) = false
            rw [hy, Bool.true_and, decide_eq_false_iff_not]
            exact c67
          have e2 := mN_f e1 (z - (k + 1))
          rw [show k + 1 + (z - (k + 1)) = z by omega] at e2
          rw [e2]
          refine g_iconst dX4_isName_74 ic_0 ?_
          refine g_istore_n dX4_isName_75 (by decide) rfl ?_
          refine g_iinc dX4_isName_76 rfl (ii_n _) (by decide) rfl ?_
          refine g_goto 34 dX4_isName_79 (by decide) ?_
          refine g_iload dX4_isName_34 rfl ?_
          refine g_iload_n dX4_isName_36 rfl ?_
          refine g_icmp_ge 82 dX4_isName_37 (by decide) (fun c37 => ?_) (fun c37 => ?_)
          · refine g_iload_n dX4_isName_82 rfl ?_
            exact g_ireturn dX4_isName_83 rfl rfl
          · refine g_iload_n dX4_isName_40 rfl ?_
            refine g_if_eq 82 dX4_isName_41 (by decide) (fun c41 => ?_) (fun c41 => ?_)
            · refine g_iload_n dX4_isName_82 rfl ?_
              exact g_ireturn dX4_isName_83 rfl rfl
            · exact absurd rfl c41
        · refine g_iconst dX4_isName_70 ic_1 ?_
          refine g_goto 75 dX4_isName_71 (by decide) ?_
          refine g_istore_n dX4_isName_75 (by decide) rfl ?_
          refine g_iinc dX4_isName_76 rfl (ii_n _) (by decide) rfl ?_
          refine g_goto 34 dX4_isName_79 (by decide) ?_
          exact ih (by show (mN (h 14) s w k && decide (nmes.getD (7 * w + k) 0 = h 14 (10 + (s + k)))) = true; rw [hy, Bool.true_and, decide_eq_true_eq]; exact c67)

set_option maxRecDepth 100000 in
set_option maxHeartbeats 4000000 in
theorem c_X4_isName {X : Sc} {h : Hp} {k0 b0 v0 z0 : Int32} {s w z : Nat} (hw : w < 13) (hs : s + z ≤ 120) : Ct X yX4_isName cX4_isName 5 (some .boolean) 0 [.ref 28, .int (nI w), .int (nI z)] (hV h k0 (nI s) b0 v0 z0) (some (.int (bI (nm0 w z && mN (h 14) s w z)))) (hV h k0 (nI s) b0 v0 z0) := by
  refine ⟨rok_b _, ?_⟩
  refine g_iload_n dX4_isName_0 rfl ?_
  refine g_bipush dX4_isName_1 bp_7 ?_
  refine g_icmp_gt 29 dX4_isName_3 (by decide) (fun c3 => ?_) (fun c3 => ?_)
  · have zz : nm0 w z = false := by rw [nm0, decide_eq_false (fun q => nI_nlt (a := 7) (b := z) q (by omega) c3)]; rfl
    rw [show (nm0 w z && mN (h 14) s w z) = false from by rw [zz]; rfl]
    refine g_iconst dX4_isName_29 ic_0 ?_
    refine g_istore_n dX4_isName_30 (by decide) rfl ?_
    refine g_iconst dX4_isName_31 ic_0 ?_
    refine g_istore dX4_isName_32 (by decide) rfl ?_
    refine g_iload dX4_isName_34 rfl ?_
    refine g_iload_n dX4_isName_36 rfl ?_
    refine g_icmp_ge 82 dX4_isName_37 (by decide) (fun c37 => ?_) (fun c37 => ?_)
    · refine g_iload_n dX4_isName_82 rfl ?_
      exact g_ireturn dX4_isName_83 rfl rfl
    · refine g_iload_n dX4_isName_40 rfl ?_
      refine g_if_eq 82 dX4_isName_41 (by decide) (fun c41 => ?_) (fun c41 => ?_)
      · refine g_iload_n dX4_isName_82 rfl ?_
        exact g_ireturn dX4_isName_83 rfl rfl
      · exact absurd rfl c41
  · have z7 : z ≤ 7 := Nat.le_of_not_lt (fun q => c3 (nI_lt (a := 7) q (by omega)))
    refine g_iload_n dX4_isName_6 rfl ?_
    refine g_bipush dX4_isName_7 bp_7 ?_
    refine g_icmp_eq 25 dX4_isName_9 (by decide) (fun c9 => ?_) (fun c9 => ?_)
    · have zz : nm0 w z = true := by rw [nm0, decide_eq_true z7, decide_eq_true ((nI_eq (a := z) (b := 7) (by omega) (by decide)).mp c9)]; rfl
      rw [zz, Bool.true_and]
      refine g_iconst dX4_isName_25 ic_1 ?_
      refine g_goto 30 dX4_isName_26 (by decide) ?_
      refine g_istore_n dX4_isName_30 (by decide) rfl ?_
      refine g_iconst dX4_isName_31 ic_0 ?_
      refine g_istore dX4_isName_32 (by decide) rfl ?_
      exact l_X4_isName hw z7 hs 0 (Nat.zero_le _) rfl
    · have n7 : ¬ z = 7 := fun q => c9 (by rw [q]; rfl)
      refine g_gets (i := 103) dX4_isName_12 ro3 fs_X4_188 ?_
      refine g_bipush dX4_isName_15 bp_7 ?_
      refine g_iload_n dX4_isName_17 rfl ?_
      refine g_imul dX4_isName_18 ?_
      refine g_iload_n dX4_isName_19 rfl ?_
      refine g_iadd dX4_isName_20 ?_
      rw [show (7 : Int32) = nI 7 from rfl, pk_mul, nI_add]
      refine g_ildr (7 * w + z) dX4_isName_21 ro3 rfl (by show 7 * w + z < 91; omega) (by decide) ?_
      refine g_if_ne 29 dX4_isName_22 (by decide) (fun c22 => ?_) (fun c22 => ?_)
      · have zz : nm0 w z = false := by rw [nm0, decide_eq_false n7, decide_eq_false c22, Bool.or_false, Bool.and_false]
        rw [show (nm0 w z && mN (h 14) s w z) = false from by rw [zz]; rfl]
        refine g_iconst dX4_isName_29 ic_0 ?_
        refine g_istore_n dX4_isName_30 (by decide) rfl ?_
        refine g_iconst dX4_isName_31 ic_0 ?_
        refine g_istore dX4_isName_32 (by decide) rfl ?_
        refine g_iload dX4_isName_34 rfl ?_
        refine g_iload_n dX4_isName_36 rfl ?_
        refine g_icmp_ge 82 dX4_isName_37 (by decide) (fun c37 => ?_) (fun c37 => ?_)
        · refine g_iload_n dX4_isName_82 rfl ?_
          exact g_ireturn dX4_isName_83 rfl rfl
        · refine g_iload_n dX4_isName_40 rfl ?_
          refine g_if_eq 82 dX4_isName_41 (by decide) (fun c41 => ?_) (fun c41 => ?_)
          · refine g_iload_n dX4_isName_82 rfl ?_
            exact g_ireturn dX4_isName_83 rfl rfl
          · exact absurd rfl c41
      · have zz : nm0 w z = true := by rw [nm0, decide_eq_true z7, decide_eq_true c22, Bool.or_true]; rfl
        rw [zz, Bool.true_and]
        refine g_iconst dX4_isName_25 ic_1 ?_
        refine g_goto 30 dX4_isName_26 (by decide) ?_
        refine g_istore_n dX4_isName_30 (by decide) rfl ?_
        refine g_iconst dX4_isName_31 ic_0 ?_
        refine g_istore dX4_isName_32 (by decide) rfl ?_
        exact l_X4_isName hw z7 hs 0 (Nat.zero_le _) rfl

theorem isW_nm {u : Rw} {s b w : Nat} (hw : w < 13) (hl : ∀ j, j < b - s → kd (cM u (s + j)) = 1) : (nm0 w (b - s) && mN u s w (b - s)) = isW (cM u) ((1, s, b, 0) : Tk) (ixW w) := by
  rw [nm_eq hw hl]
  rfl

set_option maxRecDepth 100000 in
set_option maxHeartbeats 4000000 in
theorem l_X4_wordHere {X : Sc} {h : Hp} {k0 v0 z0 : Int32} {s b : Nat} (hsb : s ≤ b) (hb : b ≤ 120) (hl : ∀ j, j < b - s → kd (cM (h 14) (s + j)) = 1) : ∀ w, w ≤ 13 → Go X RX4 cX4_wordHere 2 1 2 [.ref 28, .int (nI w)] [] (hV h k0 (nI s) (nI b) v0 z0) (some (.int (nI (cdF (cM (h 14)) ((1, s, b, 0) : Tk) (13 - w) w)))) (hV h k0 (nI s) (nI b) v0 z0) := by
  refine loop_up 13 ?_ ?_
  · refine g_iload_n dX4_wordHere_2 rfl ?_
    refine g_bipush dX4_wordHere_3 bp_13 ?_
    refine g_icmp_ge 31 dX4_wordHere_5 (by decide) (fun c5 => ?_) (fun c5 => ?_)
    · refine g_iload_n dX4_wordHere_31 rfl ?_
      refine g_bipush dX4_wordHere_32 bp_13 ?_
      refine g_icmp_ge 41 dX4_wordHere_34 (by decide) (fun c34 => ?_) (fun c34 => ?_)
      · refine g_bipush dX4_wordHere_41 bp_23 ?_
        exact g_ireturn dX4_wordHere_43 rfl rfl
      · exact (lp_yes rfl (by decide) c34).elim
    · exact (lp_yes rfl (by decide) c5).elim
  · intro w hw ih
    rw [show 13 - w = 13 - (w + 1) + 1 by omega, cdF]
    refine g_iload_n dX4_wordHere_2 rfl ?_
    refine g_bipush dX4_wordHere_3 bp_13 ?_
    refine g_icmp_ge 31 dX4_wordHere_5 (by decide) (fun c5 => ?_) (fun c5 => ?_)
    · exact (lp_no rfl (by decide) hw c5).elim
    · refine g_aload_n dX4_wordHere_8 rfl ?_
      refine g_iload_n dX4_wordHere_9 rfl ?_
      refine g_aload_n dX4_wordHere_10 rfl ?_
      refine g_getI dX4_wordHere_11 fl_X4_194 rfl rfl ?_
      rw [hV_3]
      refine g_aload_n dX4_wordHere_14 rfl ?_
      refine g_getI dX4_wordHere_15 fl_X4_191 rfl rfl ?_
      rw [hV_2]
      refine g_isub dX4_wordHere_18 ?_
      rw [pk_sub hsb]
      refine g_callV2i (c_X4_isName hw (by omega)) mi_X4_isName mv_X4_isName ml_X4_197 dX4_wordHere_19 rfl rfl (by decide) (Nat.le_of_ble_eq_true rfl) (Nat.le_of_ble_eq_true rfl) ?_
      rw [isW_nm hw hl]
      refine g_if_ne 31 dX4_wordHere_22 (by decide) (fun c22 => ?_) (fun c22 => ?_)
      · have z : isW (cM (h 14)) ((1, s, b, 0) : Tk) (ixW w) = true := by cases z : isW (cM (h 14)) ((1, s, b, 0) : Tk) (ixW w) with
          | true => rfl
          | false => exact absurd (by rw [z]; rfl) c22
        rw [if_pos z]
        refine g_iload_n dX4_wordHere_31 rfl ?_
        refine g_bipush dX4_wordHere_32 bp_13 ?_
        refine g_icmp_ge 41 dX4_wordHere_34 (by decide) (fun c34 => ?_) (fun c34 => ?_)
        · exact (lp_no rfl (by decide) hw c34).elim
        · refine g_iload_n dX4_wordHere_37 rfl ?_
          refine g_goto 43 dX4_wordHere_38 (by decide) ?_
          exact g_ireturn dX4_wordHere_43 rfl rfl
      · have z : isW (cM (h 14)) ((1, s, b, 0) : Tk) (ixW w) = false := (bI_0 _).mp c22
        rw [if_neg (by rw [z]; decide)]
        refine g_iinc dX4_wordHere_25 rfl (ii_n _) (by decide) rfl ?_
        refine g_goto 2 dX4_wordHere_28 (by decide) ?_
        exact ih

set_option maxRecDepth 100000 in
set_option maxHeartbeats 4000000 in
theorem c_X4_wordHere {X : Sc} {h : Hp} {k0 v0 z0 : Int32} {s b : Nat} (hsb : s ≤ b) (hb : b ≤ 120) (hl : ∀ j, j < b - s → kd (cM (h 14) (s + j)) = 1) : Ct X yX4_wordHere cX4_wordHere 2 (some .int) 1 [.ref 28] (hV h k0 (nI s) (nI b) v0 z0) (some (.int (nI (cdF (cM (h 14)) ((1, s, b, 0) : Tk) 13 0)))) (hV h k0 (nI s) (nI b) v0 z0) := by
  refine ⟨rfl, ?_⟩
  refine g_iconst dX4_wordHere_0 ic_0 ?_
  refine g_istore_n dX4_wordHere_1 (by decide) rfl ?_
  have K := l_X4_wordHere (X := X) (k0 := k0) (v0 := v0) (z0 := z0) hsb hb hl 0 (by decide)
  rw [Nat.sub_zero] at K
  exact K

theorem ibB_sp {h : Hp} {k s b v z : Int32} {n p : Nat} : ibB (hV h k s b v z 14) n p 32 32 = decide (p < n ∧ cM (h 14) p = 32) := by
  rw [ibB, hV_b, ib_sp]
  by_cases e : p < n <;> simp [e, cM]
theorem ibB_1 {h : Hp} {k s b v z : Int32} {n p : Nat} : ibB (hV h k s b v z 14) n p 97 122 = decide (p < n ∧ kd (cM (h 14) p) = 1) := by
  rw [ibB, hV_b, ib_1]
  by_cases e : p < n <;> simp [e, cM]
theorem ibB_2 {h : Hp} {k s b v z : Int32} {n p : Nat} : ibB (hV h k s b v z 14) n p 48 57 = decide (p < n ∧ kd (cM (h 14) p) = 2) := by
  rw [ibB, hV_b, ib_2]
  by_cases e : p < n <;> simp [e, cM]
theorem ibB_3 {h : Hp} {k s b v z : Int32} {n p : Nat} : ibB (hV h k s b v z 14) n p 59 59 = decide (p < n ∧ kd (cM (h 14) p) = 3) := by
  rw [ibB, hV_b, ib_3]
  by_cases e : p < n <;> simp [e, cM]
theorem bI_dt {P : Prop} [Decidable P] (h : ¬ bI (decide P) = 0) : P := by
  by_cases e : P
  · exact e
  · exact absurd (by rw [decide_eq_false e]; rfl) h
theorem bI_df {P : Prop} [Decidable P] (h : bI (decide P) = 0) : ¬ P := fun e => by
  rw [decide_eq_true e] at h
  exact absurd h (by decide)

set_option maxRecDepth 100000 in
set_option maxHeartbeats 4000000 in
theorem lU1 {X : Sc} {h h' : Hp} {n : Nat} (e0 : h 14 0 = nI n) (hn : n ≤ 120) {k s v z : Int32} : ∀ f p, n ≤ p + f → p ≤ n → Go X RX4 cX4_reads 1 2 28 [.ref 28] [] (hV h k s (nI (skp (cM (h 14)) n f p)) v z) none h' → Go X RX4 cX4_reads 1 2 0 [.ref 28] [] (hV h k s (nI p) v z) none h' := by
  intro f
  induction f with
  | zero =>
    intro p hp hp2 K
    refine g_aload_n dX4_reads_0 rfl ?_
    refine g_aload_n dX4_reads_1 rfl ?_
    refine g_getI dX4_reads_2 fl_X4_194 rfl rfl ?_
    rw [hV_3]
    refine g_bipush dX4_reads_5 bp_32 ?_
    refine g_bipush dX4_reads_7 bp_32 ?_
    refine g_callV3i ((c_X4_isByte (X := X) (h := hV h _ _ _ _ _) (n := n) e0 hn (by omega))) mi_X4_isByte mv_X4_isByte ml_X4_200 dX4_reads_9 rfl rfl (by decide) (Nat.le_of_ble_eq_true rfl) (Nat.le_of_ble_eq_true rfl) ?_
    rw [ibB_sp]
    refine g_if_eq 28 dX4_reads_12 (by decide) (fun c12 => ?_) (fun c12 => ?_)
    · exact K
    · exact absurd (bI_dt c12).1 (by omega)
  | succ f ih =>
    intro p hp hp2 K
    refine g_aload_n dX4_reads_0 rfl ?_
    refine g_aload_n dX4_reads_1 rfl ?_
    refine g_getI dX4_reads_2 fl_X4_194 rfl rfl ?_
    rw [hV_3]
    refine g_bipush dX4_reads_5 bp_32 ?_
    refine g_bipush dX4_reads_7 bp_32 ?_
    refine g_callV3i ((c_X4_isByte (X := X) (h := hV h _ _ _ _ _) (n := n) e0 hn (by omega))) mi_X4_isByte mv_X4_isByte ml_X4_200 dX4_reads_9 rfl rfl (by decide) (Nat.le_of_ble_eq_true rfl) (Nat.le_of_ble_eq_true rfl) ?_
    rw [ibB_sp]
    refine g_if_eq 28 dX4_reads_12 (by decide) (fun c12 => ?_) (fun c12 => ?_)
    · rw [skp, if_neg (bI_df c12)] at K
      exact K
    · have q1 := bI_dt c12
      rw [skp, if_pos q1] at K
      refine g_aload_n dX4_reads_15 rfl ?_
      refine g_dup dX4_reads_16 rfl ?_
      refine g_getI dX4_reads_17 fl_X4_194 rfl rfl ?_
      rw [hV_3]
      refine g_iconst dX4_reads_20 ic_1 ?_
      refine g_iadd dX4_reads_21 ?_
      refine g_putI dX4_reads_22 fl_X4_194 fp_4_12 rfl rfl ?_
      rw [up_hV3, nI_1]
      refine g_goto 0 dX4_reads_25 (by decide) ?_
      exact ih (p + 1) (by omega) (by omega) K

set_option maxRecDepth 100000 in
set_option maxHeartbeats 4000000 in
theorem lU2 {X : Sc} {h h' : Hp} {n : Nat} (e0 : h 14 0 = nI n) (hn : n ≤ 120) {k s v z : Int32} : ∀ f p, n ≤ p + f → p ≤ n → Go X RX4 cX4_reads 1 2 104 [.ref 28] [] (hV h k s (nI (run (cM (h 14)) n 1 f p)) v z) none h' → Go X RX4 cX4_reads 1 2 76 [.ref 28] [] (hV h k s (nI p) v z) none h' := by
  intro f
  induction f with
  | zero =>
    intro p hp hp2 K
    refine g_aload_n dX4_reads_76 rfl ?_
    refine g_aload_n dX4_reads_77 rfl ?_
    refine g_getI dX4_reads_78 fl_X4_194 rfl rfl ?_
    rw [hV_3]
    refine g_bipush dX4_reads_81 bp_97 ?_
    refine g_bipush dX4_reads_83 bp_122 ?_
    refine g_callV3i ((c_X4_isByte (X := X) (h := hV h _ _ _ _ _) (n := n) e0 hn (by omega))) mi_X4_isByte mv_X4_isByte ml_X4_200 dX4_reads_85 rfl rfl (by decide) (Nat.le_of_ble_eq_true rfl) (Nat.le_of_ble_eq_true rfl) ?_
    rw [ibB_1]
    refine g_if_eq 104 dX4_reads_88 (by decide) (fun c88 => ?_) (fun c88 => ?_)
    · exact K
    · exact absurd (bI_dt c88).1 (by omega)
  | succ f ih =>
    intro p hp hp2 K
    refine g_aload_n dX4_reads_76 rfl ?_
    refine g_aload_n dX4_reads_77 rfl ?_
    refine g_getI dX4_reads_78 fl_X4_194 rfl rfl ?_
    rw [hV_3]
    refine g_bipush dX4_reads_81 bp_97 ?_
    refine g_bipush dX4_reads_83 bp_122 ?_
    refine g_callV3i ((c_X4_isByte (X := X) (h := hV h _ _ _ _ _) (n := n) e0 hn (by omega))) mi_X4_isByte mv_X4_isByte ml_X4_200 dX4_reads_85 rfl rfl (by decide) (Nat.le_of_ble_eq_true rfl) (Nat.le_of_ble_eq_true rfl) ?_
    rw [ibB_1]
    refine g_if_eq 104 dX4_reads_88 (by decide) (fun c88 => ?_) (fun c88 => ?_)
    · rw [run, if_neg (bI_df c88)] at K
      exact K
    · have q1 := bI_dt c88
      rw [run, if_pos q1] at K
      refine g_aload_n dX4_reads_91 rfl ?_
      refine g_dup dX4_reads_92 rfl ?_
      refine g_getI dX4_reads_93 fl_X4_194 rfl rfl ?_
      rw [hV_3]
      refine g_iconst dX4_reads_96 ic_1 ?_
      refine g_iadd dX4_reads_97 ?_
      refine g_putI dX4_reads_98 fl_X4_194 fp_4_12 rfl rfl ?_
      rw [up_hV3, nI_1]
      refine g_goto 76 dX4_reads_101 (by decide) ?_
      exact ih (p + 1) (by omega) (by omega) K

set_option maxRecDepth 100000 in
set_option maxHeartbeats 4000000 in
theorem lU3 {X : Sc} {h h' : Hp} {n : Nat} (e0 : h 14 0 = nI n) (hn : n ≤ 120) {k s z : Int32} : ∀ f p v, n ≤ p + f → p ≤ n → v ≤ 99999 → Go X RX4 cX4_reads 1 2 199 [.ref 28] [] (hV h k s (nI (run (cM (h 14)) n 2 f p)) (nI (val (cM (h 14)) n f p v)) z) none h' → Go X RX4 cX4_reads 1 2 130 [.ref 28] [] (hV h k s (nI p) (nI v) z) none h' := by
  intro f
  induction f with
  | zero =>
    intro p v hp hp2 hv K
    refine g_aload_n dX4_reads_130 rfl ?_
    refine g_aload_n dX4_reads_131 rfl ?_
    refine g_getI dX4_reads_132 fl_X4_194 rfl rfl ?_
    rw [hV_3]
    refine g_bipush dX4_reads_135 bp_48 ?_
    refine g_bipush dX4_reads_137 bp_57 ?_
    refine g_callV3i ((c_X4_isByte (X := X) (h := hV h _ _ _ _ _) (n := n) e0 hn (by omega))) mi_X4_isByte mv_X4_isByte ml_X4_200 dX4_reads_139 rfl rfl (by decide) (Nat.le_of_ble_eq_true rfl) (Nat.le_of_ble_eq_true rfl) ?_
    rw [ibB_2]
    refine g_if_eq 199 dX4_reads_142 (by decide) (fun c142 => ?_) (fun c142 => ?_)
    · exact K
    · exact absurd (bI_dt c142).1 (by omega)
  | succ f ih =>
    intro p v hp hp2 hv K
    refine g_aload_n dX4_reads_130 rfl ?_
    refine g_aload_n dX4_reads_131 rfl ?_
    refine g_getI dX4_reads_132 fl_X4_194 rfl rfl ?_
    rw [hV_3]
    refine g_bipush dX4_reads_135 bp_48 ?_
    refine g_bipush dX4_reads_137 bp_57 ?_
    refine g_callV3i ((c_X4_isByte (X := X) (h := hV h _ _ _ _ _) (n := n) e0 hn (by omega))) mi_X4_isByte mv_X4_isByte ml_X4_200 dX4_reads_139 rfl rfl (by decide) (Nat.le_of_ble_eq_true rfl) (Nat.le_of_ble_eq_true rfl) ?_
    rw [ibB_2]
    refine g_if_eq 199 dX4_reads_142 (by decide) (fun c142 => ?_) (fun c142 => ?_)
    · rw [run, if_neg (bI_df c142)] at K
      rw [val, if_neg (bI_df c142)] at K
      exact K
    · have q1 := bI_dt c142
      rw [run, if_pos q1, val, if_pos q1] at K
      have hv2 := vst_le (cM (h 14)) q1.2 hv
      refine g_aload_n dX4_reads_145 rfl ?_
      refine g_aload_n dX4_reads_146 rfl ?_
      refine g_getI dX4_reads_147 fl_X4_203 rfl rfl ?_
      rw [hV_4]
      refine g_sipush dX4_reads_150 sp_9999 ?_
      refine g_icmp_le 163 dX4_reads_153 (by decide) (fun c153 => ?_) (fun c153 => ?_)
      · have z2 : v ≤ 9999 := (nI_leI (a := v) (b := 9999) (by omega) (by decide)).mp c153
        have e2 : vst (cM (h 14)) p v = 10 * v + (chM (h 14 (10 + p)) - 48) := if_pos z2
        refine g_bipush dX4_reads_163 bp_10 ?_
        refine g_aload_n dX4_reads_165 rfl ?_
        refine g_getI dX4_reads_166 fl_X4_203 rfl rfl ?_
        rw [hV_4]
        refine g_imul dX4_reads_169 ?_
        refine g_aload_n dX4_reads_170 rfl ?_
        refine g_getR dX4_reads_171 fl_X4_31 rfl rfl ?_
        refine g_aload_n dX4_reads_174 rfl ?_
        refine g_getI dX4_reads_175 fl_X4_194 rfl rfl ?_
        rw [hV_3]
        refine g_iald p dX4_reads_178 rfl rfl (by omega) ?_
        rw [hV_b]
        refine g_iadd dX4_reads_179 ?_
        refine g_bipush dX4_reads_180 bp_48 ?_
        refine g_isub dX4_reads_182 ?_
        rw [digit_m (x := h 14 (10 + p)) q1.2, ← e2]
        refine g_putI dX4_reads_183 fl_X4_203 fp_4_13 rfl rfl ?_
        rw [up_hV4]
        refine g_aload_n dX4_reads_186 rfl ?_
        refine g_dup dX4_reads_187 rfl ?_
        refine g_getI dX4_reads_188 fl_X4_194 rfl rfl ?_
        rw [hV_3]
        refine g_iconst dX4_reads_191 ic_1 ?_
        refine g_iadd dX4_reads_192 ?_
        refine g_putI dX4_reads_193 fl_X4_194 fp_4_12 rfl rfl ?_
        rw [up_hV3, nI_1]
        refine g_goto 130 dX4_reads_196 (by decide) ?_
        exact ih (p + 1) _ (by omega) (by omega) hv2 K
      · have z2 : ¬ v ≤ 9999 := fun q => c153 (nI_le (b := 9999) q (by decide))
        have e2 : vst (cM (h 14)) p v = v := if_neg z2
        rw [e2] at K
        refine g_aload_n dX4_reads_156 rfl ?_
        refine g_getI dX4_reads_157 fl_X4_203 rfl rfl ?_
        rw [hV_4]
        refine g_goto 183 dX4_reads_160 (by decide) ?_
        refine g_putI dX4_reads_183 fl_X4_203 fp_4_13 rfl rfl ?_
        rw [up_hV4]
        refine g_aload_n dX4_reads_186 rfl ?_
        refine g_dup dX4_reads_187 rfl ?_
        refine g_getI dX4_reads_188 fl_X4_194 rfl rfl ?_
        rw [hV_3]
        refine g_iconst dX4_reads_191 ic_1 ?_
        refine g_iadd dX4_reads_192 ?_
        refine g_putI dX4_reads_193 fl_X4_194 fp_4_12 rfl rfl ?_
        rw [up_hV3, nI_1]
        refine g_goto 130 dX4_reads_196 (by decide) ?_
        exact ih (p + 1) _ (by omega) (by omega) hv K

/-- the state with a token -/
def hX (h : Hp) (q : Tk) (b : Bool) : Hp := hV h (nI (cod (cM (h 14)) q)) (nI q.s) (nI q.b) (nI q.v) (bI b)
theorem run_all (c : Nat → Nat) (n k : Nat) : ∀ f p j, j < run c n k f p - p → kd (c (p + j)) = k
  | 0, p, j, h => by simp [run] at h
  | f + 1, p, j, h => by
    rw [run] at h
    by_cases e : p < n ∧ kd (c p) = k
    · rw [if_pos e] at h
      cases j with
      | zero => exact e.2
      | succ j =>
        have := run_all c n k f (p + 1) j (by omega)
        rw [show p + (j + 1) = p + 1 + j by omega]
        exact this
    · rw [if_neg e] at h; omega
theorem cod_1 {c : Nat → Nat} {s b v : Nat} : cod c (1, s, b, v) = cdF c (1, s, b, 0) 13 0 := by
  unfold cod
  rw [if_neg (show ¬ Tk.k (1, s, b, v) = 0 from by show ¬ (1 : Nat) = 0; decide), if_pos rfl]
  have : ∀ f w, cdF c (1, s, b, v) f w = cdF c (1, s, b, 0) f w := by
    intro f
    induction f with
    | zero => intro w; rfl
    | succ f ih =>
      intro w
      rw [cdF, cdF, ih]
      rfl
  exact this 13 0

set_option maxRecDepth 100000 in
set_option maxHeartbeats 4000000 in
theorem l_reads28 {X : Sc} {h : Hp} {n : Nat} (e0 : h 14 0 = nI n) (hn : n ≤ 120) {k s v z : Int32} {p : Nat} (hp : p ≤ n) : Go X RX4 cX4_reads 1 2 28 [.ref 28] [] (hV h k s (nI p) v z) none (hV h (nI (cod (cM (h 14)) (nxt false (cM (h 14)) n p))) (nI (Tk.s (nxt false (cM (h 14)) n p))) (nI (Tk.b (nxt false (cM (h 14)) n p))) (nI (Tk.v (nxt false (cM (h 14)) n p))) z) := by
  refine g_aload_n dX4_reads_28 rfl ?_
  refine g_aload_n dX4_reads_29 rfl ?_
  refine g_getI dX4_reads_30 fl_X4_194 rfl rfl ?_
  rw [hV_3]
  refine g_putI dX4_reads_33 fl_X4_191 fp_4_11 rfl rfl ?_
  rw [up_hV2]
  refine g_aload_n dX4_reads_36 rfl ?_
  refine g_iconst dX4_reads_37 ic_0 ?_
  refine g_putI dX4_reads_38 fl_X4_203 fp_4_13 rfl rfl ?_
  rw [up_hV4]
  refine g_aload_n dX4_reads_41 rfl ?_
  refine g_getI dX4_reads_42 fl_X4_194 rfl rfl ?_
  rw [hV_3]
  refine g_aload_n dX4_reads_45 rfl ?_
  refine g_getI dX4_reads_46 fl_X4_184 rfl rfl ?_
  rw [hV_0, e0]
  refine g_icmp_ne 61 dX4_reads_49 (by decide) (fun c49 => ?_) (fun c49 => ?_)
  · have q1 : p < n := by
      rcases Nat.lt_or_ge p n with q | q
      · exact q
      · exact absurd (by rw [show p = n by omega]) c49
    refine g_aload_n dX4_reads_61 rfl ?_
    refine g_aload_n dX4_reads_62 rfl ?_
    refine g_getI dX4_reads_63 fl_X4_194 rfl rfl ?_
    rw [hV_3]
    refine g_bipush dX4_reads_66 bp_97 ?_
    refine g_bipush dX4_reads_68 bp_122 ?_
    refine g_callV3i ((c_X4_isByte (X := X) (h := hV h _ _ _ _ _) (n := n) e0 hn (by omega))) mi_X4_isByte mv_X4_isByte ml_X4_200 dX4_reads_70 rfl rfl (by decide) (Nat.le_of_ble_eq_true rfl) (Nat.le_of_ble_eq_true rfl) ?_
    rw [ibB_1]
    refine g_if_eq 115 dX4_reads_73 (by decide) (fun c73 => ?_) (fun c73 => ?_)
    · have k1 : ¬ kd ((cM (h 14)) p) = 1 := fun q => bI_df c73 ⟨q1, q⟩
      refine g_aload_n dX4_reads_115 rfl ?_
      refine g_aload_n dX4_reads_116 rfl ?_
      refine g_getI dX4_reads_117 fl_X4_194 rfl rfl ?_
      rw [hV_3]
      refine g_bipush dX4_reads_120 bp_48 ?_
      refine g_bipush dX4_reads_122 bp_57 ?_
      refine g_callV3i ((c_X4_isByte (X := X) (h := hV h _ _ _ _ _) (n := n) e0 hn (by omega))) mi_X4_isByte mv_X4_isByte ml_X4_200 dX4_reads_124 rfl rfl (by decide) (Nat.le_of_ble_eq_true rfl) (Nat.le_of_ble_eq_true rfl) ?_
      rw [ibB_2]
      refine g_if_eq 208 dX4_reads_127 (by decide) (fun c127 => ?_) (fun c127 => ?_)
      · have k2 : ¬ kd ((cM (h 14)) p) = 2 := fun q => bI_df c127 ⟨q1, q⟩
        have k4 := kd_le ((cM (h 14)) p)
        have k0 : 1 ≤ kd ((cM (h 14)) p) := by
          unfold kd
          split
          · omega
          · split
            · omega
            · split <;> omega
        refine g_aload_n dX4_reads_208 rfl ?_
        refine g_aload_n dX4_reads_209 rfl ?_
        refine g_aload_n dX4_reads_210 rfl ?_
        refine g_getI dX4_reads_211 fl_X4_194 rfl rfl ?_
        rw [hV_3]
        refine g_bipush dX4_reads_214 bp_59 ?_
        refine g_bipush dX4_reads_216 bp_59 ?_
        refine g_callV3i ((c_X4_isByte (X := X) (h := hV h _ _ _ _ _) (n := n) e0 hn (by omega))) mi_X4_isByte mv_X4_isByte ml_X4_200 dX4_reads_218 rfl rfl (by decide) (Nat.le_of_ble_eq_true rfl) (Nat.le_of_ble_eq_true rfl) ?_
        rw [ibB_3]
        refine g_if_eq 229 dX4_reads_221 (by decide) (fun c221 => ?_) (fun c221 => ?_)
        · have k3 : ¬ kd ((cM (h 14)) p) = 3 := fun q => bI_df c221 ⟨q1, q⟩
          have k5 : kd ((cM (h 14)) p) = 4 := by omega
          have eQ : (nxt false (cM (h 14)) n p) = (4, p, p + 1, 0) := by rw [nxt, if_neg (by omega), if_pos (Or.inr ⟨k5, rfl⟩), k5]
          rw [eQ, show cod (cM (h 14)) (4, p, p + 1, 0) = 23 from rfl]
          refine g_bipush dX4_reads_229 bp_23 ?_
          refine g_putI dX4_reads_231 fl_X4_206 fp_4_10 rfl rfl ?_
          rw [up_hV1]
          refine g_aload_n dX4_reads_234 rfl ?_
          refine g_dup dX4_reads_235 rfl ?_
          refine g_getI dX4_reads_236 fl_X4_194 rfl rfl ?_
          rw [hV_3]
          refine g_iconst dX4_reads_239 ic_1 ?_
          refine g_iadd dX4_reads_240 ?_
          refine g_putI dX4_reads_241 fl_X4_194 fp_4_12 rfl rfl ?_
          rw [up_hV3, nI_1]
          exact g_return dX4_reads_244 rfl rfl
        · have k3 : kd ((cM (h 14)) p) = 3 := (bI_dt c221).2
          have eQ : (nxt false (cM (h 14)) n p) = (3, p, p + 1, 0) := by rw [nxt, if_neg (by omega), if_pos (Or.inl k3), k3]
          rw [eQ, show cod (cM (h 14)) (3, p, p + 1, 0) = 21 from rfl]
          refine g_bipush dX4_reads_224 bp_21 ?_
          refine g_goto 231 dX4_reads_226 (by decide) ?_
          refine g_putI dX4_reads_231 fl_X4_206 fp_4_10 rfl rfl ?_
          rw [up_hV1]
          refine g_aload_n dX4_reads_234 rfl ?_
          refine g_dup dX4_reads_235 rfl ?_
          refine g_getI dX4_reads_236 fl_X4_194 rfl rfl ?_
          rw [hV_3]
          refine g_iconst dX4_reads_239 ic_1 ?_
          refine g_iadd dX4_reads_240 ?_
          refine g_putI dX4_reads_241 fl_X4_194 fp_4_12 rfl rfl ?_
          rw [up_hV3, nI_1]
          exact g_return dX4_reads_244 rfl rfl
      · have k2 : kd ((cM (h 14)) p) = 2 := (bI_dt c127).2
        have eQ : (nxt false (cM (h 14)) n p) = (2, p, run (cM (h 14)) n 2 (n - p) p, val (cM (h 14)) n (n - p) p 0) := by rw [nxt, if_neg (by omega), if_neg (by omega), k2]; rfl
        rw [eQ, show cod (cM (h 14)) (2, p, run (cM (h 14)) n 2 (n - p) p, val (cM (h 14)) n (n - p) p 0) = 20 from rfl]
        refine lU3 e0 hn (n - p) p 0 (by omega) hp (by omega) ?_
        refine g_aload_n dX4_reads_199 rfl ?_
        refine g_bipush dX4_reads_200 bp_20 ?_
        refine g_putI dX4_reads_202 fl_X4_206 fp_4_10 rfl rfl ?_
        rw [up_hV1]
        refine g_goto 244 dX4_reads_205 (by decide) ?_
        exact g_return dX4_reads_244 rfl rfl
    · have k1 : kd ((cM (h 14)) p) = 1 := (bI_dt c73).2
      have eQ : (nxt false (cM (h 14)) n p) = (1, p, run (cM (h 14)) n 1 (n - p) p, 0) := by rw [nxt, if_neg (by omega), if_neg (by omega), k1]; rfl
      have hr := run_le (cM (h 14)) n 1 (n - p) p hp
      rw [eQ, cod_1]
      refine lU2 e0 hn (n - p) p (by omega) hp ?_
      refine g_aload_n dX4_reads_104 rfl ?_
      refine g_aload_n dX4_reads_105 rfl ?_
      refine g_callV0i (c_X4_wordHere hr.1 (by omega) (run_all (cM (h 14)) n 1 (n - p) p)) mi_X4_wordHere mv_X4_wordHere ml_X4_209 dX4_reads_106 rfl rfl (by decide) (Nat.le_of_ble_eq_true rfl) (Nat.le_of_ble_eq_true rfl) ?_
      refine g_putI dX4_reads_109 fl_X4_206 fp_4_10 rfl rfl ?_
      rw [up_hV1]
      refine g_goto 244 dX4_reads_112 (by decide) ?_
      exact g_return dX4_reads_244 rfl rfl
  · have q1 : p = n := (nI_eq (by omega) (by omega)).mp c49
    have eQ : (nxt false (cM (h 14)) n p) = (0, p, p, 0) := by rw [nxt, if_pos (by omega)]
    rw [eQ]
    refine g_aload_n dX4_reads_52 rfl ?_
    refine g_bipush dX4_reads_53 bp_22 ?_
    refine g_putI dX4_reads_55 fl_X4_206 fp_4_10 rfl rfl ?_
    rw [up_hV1]
    refine g_goto 244 dX4_reads_58 (by decide) ?_
    exact g_return dX4_reads_244 rfl rfl

set_option maxRecDepth 100000 in
set_option maxHeartbeats 4000000 in
theorem c_X4_reads {X : Sc} {h : Hp} {n : Nat} (e0 : h 14 0 = nI n) (hn : n ≤ 120) {p : Nat} (e3 : h 14 3 = nI p) (hp : p ≤ n) (b : Bool) (eb : h 14 5 = bI b) : Ct X yX4_reads cX4_reads 1 none 2 [.ref 28] h none (hX h ((nx false (cM (h 14)) n) p) b) := by
  refine ⟨trivial, ?_⟩
  refine g_h (hV_self h).symm ?_
  rw [e3, eb]
  refine lU1 e0 hn (n - p) p (by omega) hp ?_
  exact l_reads28 e0 hn (skp_le (cM (h 14)) n (n - p) p hp).2

