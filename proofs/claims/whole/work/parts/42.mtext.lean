/-! which item -/
theorem kd_ix : ∀ k, k < 7 → kdS k = ixW k ∧ ixW k ≠ 0 ∧ ixW k ≠ 2 := by decide
theorem rdK_hit {N : Nat → Tk} {c : Nat → Nat} {m : Rw} {q : Tk} {x : Nat} (hx : x < 7) (hW : isW c q (ixW x) = true) : ∀ f k, f + k = 7 → k ≤ x → rdK N c m q f k = rdD N c m (nI x) q
  | 0, k, e, hk => by omega
  | f + 1, k, e, hk => by
    rw [rdK, (kd_ix k (by omega)).1]
    by_cases z : isW c q (ixW k) = true
    · have : k = x := ixW_inj k (by omega) x (by omega) (isW_one (ixW_lt (by omega)) (ixW_lt (by omega)) z hW)
      rw [if_pos z, this]
    · rw [if_neg z]
      have : k ≠ x := fun y => z (y ▸ hW)
      exact rdK_hit hx hW f (k + 1) (by omega) (by omega)
theorem rdK_no {N : Nat → Tk} {c : Nat → Nat} {m : Rw} {q : Tk} (h : ∀ x, x < 7 → ¬ isW c q (ixW x) = true) : ∀ f k, f + k = 7 → rdK N c m q f k = (false, m, q)
  | 0, k, e => rfl
  | f + 1, k, e => by
    rw [rdK, (kd_ix k (by omega)).1, if_neg (h k (by omega))]
    exact rdK_no h f (k + 1) (by omega)
section WHICH
variable {N : Nat → Tk} {c : Nat → Nat} {m : Rw} {q : Tk}
theorem rdI_d (h : cod c q ≤ 6) : rdI N c m q = rdD N c m (nI (cod c q)) q := by
  have hW := (cod_w (c := c) (q := q) (w := cod c q) (by omega)).mp rfl
  obtain ⟨a, b, d⟩ := kd_ix (cod c q) (by omega)
  rw [rdI, if_neg (fun z => b (isW_one (ixW_lt (by omega)) (by decide) hW z)), if_neg (fun z => d (isW_one (ixW_lt (by omega)) (by decide) hW z))]
  exact rdK_hit (by omega) hW 7 0 rfl (Nat.zero_le _)
theorem rdI_g (h : cod c q = 10) : rdI N c m q = rdG N c m q := by
  have hW : isW c q 0 = true := (cod_w (w := 10) (by decide)).mp h
  rw [rdI, if_pos hW]
theorem rdI_e (h : cod c q = 12) : rdI N c m q = rdE N m q := by
  have hW : isW c q 2 = true := (cod_w (w := 12) (by decide)).mp h
  rw [rdI, if_neg (fun z => absurd (isW_one (by decide) (by decide) z hW) (by decide)), if_pos hW]
theorem rdI_n (h1 : ¬ cod c q ≤ 6) (h2 : ¬ cod c q = 10) (h3 : ¬ cod c q = 12) : rdI N c m q = (false, m, q) := by
  have w0 : ¬ isW c q 0 = true := fun z => h2 ((cod_w (w := 10) (by decide)).mpr z)
  have w2 : ¬ isW c q 2 = true := fun z => h3 ((cod_w (w := 12) (by decide)).mpr z)
  rw [rdI, if_neg w0, if_neg w2]
  exact rdK_no (fun x hx z => h1 (by have := (cod_w (c := c) (q := q) (w := x) (by omega)).mpr z; omega)) 7 0 rfl
end WHICH

set_option maxRecDepth 100000 in
set_option maxHeartbeats 4000000 in
theorem c_X4_item {X : Sc} {h : Hp} {n : Nat} (e0 : h 14 0 = nI n) (hn : n ≤ 120) {q : Tk} (hq : TkOk (cM (h 14)) n q) (hI : In (h 11)) : Ct X yX4_item cX4_item 1 none 6 [.ref 28] (hX h q false) none (hX (setg h 11 (rdI (nx false (cM (h 14)) n) (cM (h 14)) (h 11) q).2.1) (rdI (nx false (cM (h 14)) n) (cM (h 14)) (h 11) q).2.2 (!(rdI (nx false (cM (h 14)) n) (cM (h 14)) (h 11) q).1)) := by
  refine ⟨trivial, ?_⟩
  refine g_aload_n dX4_item_0 rfl ?_
  refine g_getI dX4_item_1 fl_X4_206 rfl rfl ?_
  rw [hX_1]
  refine g_bipush dX4_item_4 bp_6 ?_
  refine g_icmp_gt 16 dX4_item_6 (by decide) (fun c6 => ?_) (fun c6 => ?_)
  · have k6 : ¬ cod (cM (h 14)) q ≤ 6 := fun z => nI_nlt (a := 6) z (by decide) c6
    refine g_aload_n dX4_item_16 rfl ?_
    refine g_getI dX4_item_17 fl_X4_206 rfl rfl ?_
    rw [hX_1]
    refine g_bipush dX4_item_20 bp_10 ?_
    refine g_icmp_ne 32 dX4_item_22 (by decide) (fun c22 => ?_) (fun c22 => ?_)
    · have k10 : ¬ cod (cM (h 14)) q = 10 := fun z => c22 (by rw [z]; rfl)
      refine g_aload_n dX4_item_32 rfl ?_
      refine g_bipush dX4_item_33 bp_12 ?_
      by_cases k12 : cod (cM (h 14)) q = 12
      · rw [rdI_e k12, rdE]
        refine g_callV1i (c_takes_t (w := 12) e0 hn hq (by decide) k12) mi_X4_takes mv_X4_takes ml_X4_219 dX4_item_35 rfl rfl (by decide) (Nat.le_of_ble_eq_true rfl) (Nat.le_of_ble_eq_true rfl) ?_
        refine g_if_eq 48 dX4_item_38 (by decide) (fun c38 => ?_) (fun c38 => ?_)
        · exact absurd c38 (by decide)
        · refine g_aload_n dX4_item_41 rfl ?_
          refine g_callV0v (c_X4_mealItem e0 hn (ok_N hq)) mi_X4_mealItem mv_X4_mealItem ml_X4_234 dX4_item_42 rfl rfl (by decide) (Nat.le_of_ble_eq_true rfl) (Nat.le_of_ble_eq_true rfl) ?_
          refine g_goto 53 dX4_item_45 (by decide) ?_
          exact g_return dX4_item_53 rfl rfl
      · rw [rdI_n k6 k10 k12]
        show Go _ _ _ _ _ _ _ _ _ _ (hX (setg h 11 (h 11)) q true)
        rw [setg_id]
        refine g_callV1i (c_takes_f (w := 12) (by decide) k12) mi_X4_takes mv_X4_takes ml_X4_219 dX4_item_35 rfl rfl (by decide) (Nat.le_of_ble_eq_true rfl) (Nat.le_of_ble_eq_true rfl) ?_
        refine g_if_eq 48 dX4_item_38 (by decide) (fun c38 => ?_) (fun c38 => ?_)
        · refine g_aload_n dX4_item_48 rfl ?_
          refine g_iconst dX4_item_49 ic_1 ?_
          refine g_put dX4_item_50 fl_X4_212 fp_4_14 rfl rfl rfl rfl ?_
          rw [up_hX5t]
          exact g_return dX4_item_53 rfl rfl
        · exact absurd rfl c38
    · have k10 : cod (cM (h 14)) q = 10 := (nI_eq (a := cod (cM (h 14)) q) (b := 10) (by have := cod_lt (cM (h 14)) q; omega) (by decide)).mp c22
      rw [rdI_g k10]
      refine g_aload_n dX4_item_25 rfl ?_
      refine g_callV0v (c_X4_guestItem e0 hn hq hI) mi_X4_guestItem mv_X4_guestItem ml_X4_231 dX4_item_26 rfl rfl (by decide) (Nat.le_of_ble_eq_true rfl) (Nat.le_of_ble_eq_true rfl) ?_
      refine g_goto 53 dX4_item_29 (by decide) ?_
      exact g_return dX4_item_53 rfl rfl
  · have k6 : cod (cM (h 14)) q ≤ 6 := Nat.le_of_not_lt (fun z => c6 (nI_lt (a := 6) z (by have := cod_lt (cM (h 14)) q; omega)))
    rw [rdI_d k6]
    refine g_aload_n dX4_item_9 rfl ?_
    refine g_callV0v (c_X4_dishItem e0 hn hq hI) mi_X4_dishItem mv_X4_dishItem ml_X4_228 dX4_item_10 rfl rfl (by decide) (Nat.le_of_ble_eq_true rfl) (Nat.le_of_ble_eq_true rfl) ?_
    refine g_goto 53 dX4_item_13 (by decide) ?_
    exact g_return dX4_item_53 rfl rfl

/-! where a token ends -/
def Gt (c : Nat → Nat) (n p : Nat) (z : Tk) : Prop := TkOk c n z ∧ (z.k ≠ 0 → p < z.b)
section GTS
variable {fl : Bool} {c : Nat → Nat} {n p : Nat}
theorem gt_N {q : Tk} (h : TkOk c n q) : Gt c n q.b (nx fl c n q.b) := ⟨ok_N h, (nx_ok fl c h.2.1).2.2⟩
theorem gt_N2 {z : Tk} (h : Gt c n p z) (hk : z.k ≠ 0) : Gt c n p (nx fl c n z.b) := ⟨ok_N h.1, fun k => Nat.lt_trans (h.2 hk) ((nx_ok fl c h.1.2.1).2.2 k)⟩
theorem gt_tkN {T : Nat} {z : Tk} (h : Gt c n p z) : Gt c n p (tkN (nx fl c n) T z) := by
  unfold tkN
  split
  · rename_i o
    exact gt_N2 h (by have := (of_decide_eq_true o).1; omega)
  · exact h
theorem gt_tkW {i : Nat} {z : Tk} (h : Gt c n p z) : Gt c n p (tkW (nx fl c n) c z i) := by
  unfold tkW
  split
  · rename_i o
    exact gt_N2 h (by have := (isW_k o).1; omega)
  · exact h
theorem rdD_b {m : Rw} {k : Int32} {q : Tk} (hq : TkOk c n q) : (rdD (nx fl c n) c m k q).1 = true → Gt c n q.b (rdD (nx fl c n) c m k q).2.2 := by
  unfold rdD
  split
  case isFalse => intro z; cases z
  case isTrue h8 =>
  have h1 := gt_N (fl := fl) hq
  generalize nx fl c n q.b = q1 at h1 ⊢
  unfold rdD1
  split
  case isFalse => intro z; cases z
  case isTrue o1 =>
  have h2 := gt_tkN (fl := fl) (T := 11) h1
  generalize tkN (nx fl c n) 11 q1 = q2 at h2 ⊢
  unfold rdD2
  split
  case isFalse => intro z; cases z
  case isTrue o2 =>
  have h3 := gt_tkN (fl := fl) (T := 11) h2
  generalize tkN (nx fl c n) 11 q2 = q3 at h3 ⊢
  have K5 : ∀ (p s : Int32) (z : Tk), Gt c n q.b z → Gt c n q.b (rdD5 (nx fl c n) c m k (nI q1.v) (nI q2.v) p s z).2.2 := fun p s z hz => gt_tkW hz
  have K4 : ∀ (p : Int32) (z : Tk), Gt c n q.b z → (rdD4 (nx fl c n) c m k (nI q1.v) (nI q2.v) p z).1 = true → Gt c n q.b (rdD4 (nx fl c n) c m k (nI q1.v) (nI q2.v) p z).2.2 := by
    intro p z hz
    unfold rdD4
    split
    · rename_i w
      split
      · intro _
        exact K5 p _ _ (gt_tkN (gt_N2 hz (by have := (isW_k w).1; omega)))
      · intro z; cases z
    · intro _
      exact K5 p 0 _ hz
  unfold rdD3
  split
  · rename_i w
    split
    · exact K4 _ _ (gt_tkN (gt_N2 h3 (by have := (isW_k w).1; omega)))
    · intro z; cases z
  · exact K4 10 _ h3
theorem rdG_b {m : Rw} {q : Tk} (hq : TkOk c n q) : (rdG (nx fl c n) c m q).1 = true → Gt c n q.b (rdG (nx fl c n) c m q).2.2 := by
  unfold rdG
  split
  case isFalse => intro z; cases z
  case isTrue h8 =>
  have h1 := gt_N (fl := fl) hq
  generalize nx fl c n q.b = q1 at h1 ⊢
  unfold rdG1
  split
  case isFalse => intro z; cases z
  case isTrue o1 =>
  have h2 := gt_tkN (fl := fl) (T := 99) h1
  generalize tkN (nx fl c n) 99 q1 = q2 at h2 ⊢
  unfold rdG2
  split
  · rename_i w
    split
    · intro _
      exact gt_tkN (gt_N2 h2 (by have := (isW_k w).1; omega))
    · intro z; cases z
  · intro _; exact h2
theorem rdE_b {m : Rw} {q : Tk} (hq : TkOk c n q) : (rdE (nx fl c n) m q).1 = true → Gt c n q.b (rdE (nx fl c n) m q).2.2 := by
  unfold rdE
  have h1 := gt_N (fl := fl) hq
  generalize nx fl c n q.b = q1 at h1 ⊢
  unfold rdM1
  split
  case isFalse => intro z; cases z
  case isTrue o1 =>
  have h2 := gt_tkN (fl := fl) (T := 5) h1
  generalize tkN (nx fl c n) 5 q1 = q2 at h2 ⊢
  unfold rdM2
  split
  case isFalse => intro z; cases z
  case isTrue o2 =>
  have h3 := gt_tkN (fl := fl) (T := 5) h2
  generalize tkN (nx fl c n) 5 q2 = q3 at h3 ⊢
  unfold rdM3
  split
  · intro _; exact gt_tkN h3
  · intro z; cases z
theorem rdK_b {m : Rw} {q : Tk} (hq : TkOk c n q) : ∀ f k, (rdK (nx fl c n) c m q f k).1 = true → q.k = 1 ∧ Gt c n q.b (rdK (nx fl c n) c m q f k).2.2
  | 0, k => by intro z; cases z
  | f + 1, k => by
    unfold rdK
    split
    · rename_i w
      exact fun z => ⟨(isW_k w).1, rdD_b hq z⟩
    · exact rdK_b hq f (k + 1)
theorem rdI_b {m : Rw} {q : Tk} (hq : TkOk c n q) : (rdI (nx fl c n) c m q).1 = true → q.k = 1 ∧ Gt c n q.b (rdI (nx fl c n) c m q).2.2 := by
  unfold rdI
  split
  · rename_i w
    exact fun z => ⟨(isW_k w).1, rdG_b hq z⟩
  · split
    · rename_i w
      exact fun z => ⟨(isW_k w).1, rdE_b hq z⟩
    · exact rdK_b hq 7 0
end GTS
theorem m1s : ∀ s, s < 121 → (-1 - nI s : Int32) < 0 := by decide +kernel

theorem zT_M (h : Hp) (q : Tk) (x : Rw) (b : Bool) : zT (h 14) (upd (hX (setg h 11 x) q b 14) 0 0) := ⟨upd_s _ _ _, fun j => by
  rw [upd_n _ _ (by omega), hX, hV_b]
  rfl⟩
theorem setg_hX14 (h : Hp) (q : Tk) (b : Bool) (t : Rw) : setg (hX h q b) 14 t = setg h 14 t := setg_hV14 _ _ _ _ _ _ _
set_option maxRecDepth 100000 in
set_option maxHeartbeats 4000000 in
theorem l_X4_text {X : Sc} {h : Hp} {n : Nat} (e0 : h 14 0 = nI n) (hn : n ≤ 120) : ∀ f it (m : Rw) (q : Tk), it + f = 120 → In m → TkOk (cM (h 14)) n q → (q.k ≠ 0 → it ≤ q.b) → ∃ u : Rw, zT (h 14) u ∧ Go X RX4 cX4_text 2 7 24 [.ref 28, .int (nI it)] [] (hX (setg h 11 (rdI (nx false (cM (h 14)) n) (cM (h 14)) m q).2.1) (rdI (nx false (cM (h 14)) n) (cM (h 14)) m q).2.2 (!(rdI (nx false (cM (h 14)) n) (cM (h 14)) m q).1)) (some (.int (rdT (nx false (cM (h 14)) n) (cM (h 14)) (f + 1) it m q).1)) (setg (setg h 11 (if (rdT (nx false (cM (h 14)) n) (cM (h 14)) (f + 1) it m q).1 < 0 then h 13 else (rdT (nx false (cM (h 14)) n) (cM (h 14)) (f + 1) it m q).2.1)) 14 u) := by
  intro f
  induction f with
  | zero =>
    intro it m q hit hI hq hb
    have hR := rdI_ok (fl := false) hI hq
    have hB := rdI_b (fl := false) (m := m) hq
    rw [rdT]
    generalize rdI (nx false (cM (h 14)) n) (cM (h 14)) m q = Q at hR hB ⊢
    have hs : Q.2.2.s < 121 := by have := hR.2.1; have := hR.2.2.1; omega
    by_cases b1 : Q.1 = true
    case neg =>
      have bf : Q.1 = false := by cases z : Q.1 with
        | true => exact absurd z b1
        | false => rfl
      rw [if_neg b1]
      refine ⟨(upd (hX (setg h 11 Q.2.1) Q.2.2 true 14) 0 0), zT_M _ _ _ _, ?_⟩
      rw [if_pos (m1s _ hs), bf, Bool.not_false]
      refine g_aload_n dX4_text_24 rfl ?_
      refine g_bipush dX4_text_25 bp_21 ?_
      refine g_callV1i (c_takes_b) mi_X4_takes mv_X4_takes ml_X4_219 dX4_text_27 rfl rfl (by decide) (Nat.le_of_ble_eq_true rfl) (Nat.le_of_ble_eq_true rfl) ?_
      refine g_if_eq 43 dX4_text_30 (by decide) (fun c30 => ?_) (fun c30 => ?_)
      · refine g_aload_n dX4_text_43 rfl ?_
        refine g_aload_n dX4_text_44 rfl ?_
        refine g_getI dX4_text_45 fl_X4_212 rfl rfl ?_
        rw [hX_5]
        refine g_if_ne 60 dX4_text_48 (by decide) (fun c48 => ?_) (fun c48 => ?_)
        · refine g_iconst dX4_text_60 ic_1 ?_
          refine g_goto 65 dX4_text_61 (by decide) ?_
          refine g_put dX4_text_65 fl_X4_212 fp_4_14 rfl rfl rfl rfl ?_
          rw [up_hX5t]
          refine g_aload_n dX4_text_68 rfl ?_
          refine g_iconst dX4_text_69 ic_0 ?_
          refine g_putI dX4_text_70 fl_X4_184 fp_4_9 rfl rfl ?_
          rw [up_setg, setg_hX14]
          refine g_aload_n dX4_text_73 rfl ?_
          refine g_getI dX4_text_74 fl_X4_212 rfl rfl ?_
          rw [show setg (setg h 11 Q.2.1) 14 (upd (hX (setg h 11 Q.2.1) Q.2.2 true 14) 0 0) 14 5 = 1 from rfl]
          refine g_if_ne 82 dX4_text_77 (by decide) (fun c77 => ?_) (fun c77 => ?_)
          · refine g_aload_n dX4_text_82 rfl ?_
            refine g_callV0v (c_X4_putsBack) mi_X4_putsBack mv_X4_putsBack ml_X4_147 dX4_text_83 rfl rfl (by decide) (Nat.le_of_ble_eq_true rfl) (Nat.le_of_ble_eq_true rfl) ?_
            rw [setg_n _ _ (show 13 ≠ 14 by decide), setg_n _ _ (show 13 ≠ 11 by decide), setg_c _ (show 14 ≠ 11 by decide), setg_2]
            refine g_iconst dX4_text_86 ic_m1 ?_
            refine g_aload_n dX4_text_87 rfl ?_
            refine g_getI dX4_text_88 fl_X4_191 rfl rfl ?_
            rw [show setg (setg h 11 (h 13)) 14 (upd (hX (setg h 11 Q.2.1) Q.2.2 true 14) 0 0) 14 2 = nI Q.2.2.s from rfl]
            refine g_isub dX4_text_91 ?_
            exact g_ireturn dX4_text_92 rfl rfl
          · exact absurd c77 (by decide)
        · exact absurd c48 (by decide)
      · exact absurd rfl c30
    by_cases k0 : Q.2.2.k = 0
    case pos =>
      rw [if_pos b1, if_pos k0]
      refine ⟨(upd (hX (setg h 11 Q.2.1) Q.2.2 false 14) 0 0), zT_M _ _ _ _, ?_⟩
      rw [if_neg (nI_pos (by omega)), b1, Bool.not_true]
      have k3b : ¬ Q.2.2.k = 3 := by omega
      refine g_aload_n dX4_text_24 rfl ?_
      refine g_bipush dX4_text_25 bp_21 ?_
      refine g_callV1i (c_takes_f (w := 21) (by decide) (fun z => k3b (cod_21.mp z))) mi_X4_takes mv_X4_takes ml_X4_219 dX4_text_27 rfl rfl (by decide) (Nat.le_of_ble_eq_true rfl) (Nat.le_of_ble_eq_true rfl) ?_
      refine g_if_eq 43 dX4_text_30 (by decide) (fun c30 => ?_) (fun c30 => ?_)
      · refine g_aload_n dX4_text_43 rfl ?_
        refine g_aload_n dX4_text_44 rfl ?_
        refine g_getI dX4_text_45 fl_X4_212 rfl rfl ?_
        rw [hX_5]
        refine g_if_ne 60 dX4_text_48 (by decide) (fun c48 => ?_) (fun c48 => ?_)
        · exact absurd rfl c48
        · refine g_aload_n dX4_text_51 rfl ?_
          refine g_getI dX4_text_52 fl_X4_206 rfl rfl ?_
          rw [hX_1]
          refine g_bipush dX4_text_55 bp_22 ?_
          refine g_icmp_eq 64 dX4_text_57 (by decide) (fun c57 => ?_) (fun c57 => ?_)
          · refine g_iconst dX4_text_64 ic_0 ?_
            refine g_put dX4_text_65 fl_X4_212 fp_4_14 rfl rfl rfl rfl ?_
            rw [up_hX5f]
            refine g_aload_n dX4_text_68 rfl ?_
            refine g_iconst dX4_text_69 ic_0 ?_
            refine g_putI dX4_text_70 fl_X4_184 fp_4_9 rfl rfl ?_
            rw [up_setg, setg_hX14]
            refine g_aload_n dX4_text_73 rfl ?_
            refine g_getI dX4_text_74 fl_X4_212 rfl rfl ?_
            rw [show setg (setg h 11 Q.2.1) 14 (upd (hX (setg h 11 Q.2.1) Q.2.2 false 14) 0 0) 14 5 = 0 from rfl]
            refine g_if_ne 82 dX4_text_77 (by decide) (fun c77 => ?_) (fun c77 => ?_)
            · exact absurd rfl c77
            · refine g_iload_n dX4_text_80 rfl ?_
              exact g_ireturn dX4_text_81 rfl rfl
          · exact absurd (by rw [cod_22.mpr k0]; rfl) c57
      · exact absurd rfl c30
    by_cases k3 : Q.2.2.k = 3
    case neg =>
      rw [if_pos b1, if_neg k0, if_neg k3]
      refine ⟨(upd (hX (setg h 11 Q.2.1) Q.2.2 true 14) 0 0), zT_M _ _ _ _, ?_⟩
      rw [if_pos (m1s _ hs), b1, Bool.not_true]
      refine g_aload_n dX4_text_24 rfl ?_
      refine g_bipush dX4_text_25 bp_21 ?_
      refine g_callV1i (c_takes_f (w := 21) (by decide) (fun z => k3 (cod_21.mp z))) mi_X4_takes mv_X4_takes ml_X4_219 dX4_text_27 rfl rfl (by decide) (Nat.le_of_ble_eq_true rfl) (Nat.le_of_ble_eq_true rfl) ?_
      refine g_if_eq 43 dX4_text_30 (by decide) (fun c30 => ?_) (fun c30 => ?_)
      · refine g_aload_n dX4_text_43 rfl ?_
        refine g_aload_n dX4_text_44 rfl ?_
        refine g_getI dX4_text_45 fl_X4_212 rfl rfl ?_
        rw [hX_5]
        refine g_if_ne 60 dX4_text_48 (by decide) (fun c48 => ?_) (fun c48 => ?_)
        · exact absurd rfl c48
        · refine g_aload_n dX4_text_51 rfl ?_
          refine g_getI dX4_text_52 fl_X4_206 rfl rfl ?_
          rw [hX_1]
          refine g_bipush dX4_text_55 bp_22 ?_
          refine g_icmp_eq 64 dX4_text_57 (by decide) (fun c57 => ?_) (fun c57 => ?_)
          · exact absurd (cod_22.mp ((nI_eq (a := cod _ Q.2.2) (b := 22) (by have := cod_lt (cM (setg h 11 Q.2.1 14)) Q.2.2; omega) (by decide)).mp c57)) k0
          · refine g_iconst dX4_text_60 ic_1 ?_
            refine g_goto 65 dX4_text_61 (by decide) ?_
            refine g_put dX4_text_65 fl_X4_212 fp_4_14 rfl rfl rfl rfl ?_
            rw [up_hX5t]
            refine g_aload_n dX4_text_68 rfl ?_
            refine g_iconst dX4_text_69 ic_0 ?_
            refine g_putI dX4_text_70 fl_X4_184 fp_4_9 rfl rfl ?_
            rw [up_setg, setg_hX14]
            refine g_aload_n dX4_text_73 rfl ?_
            refine g_getI dX4_text_74 fl_X4_212 rfl rfl ?_
            rw [show setg (setg h 11 Q.2.1) 14 (upd (hX (setg h 11 Q.2.1) Q.2.2 true 14) 0 0) 14 5 = 1 from rfl]
            refine g_if_ne 82 dX4_text_77 (by decide) (fun c77 => ?_) (fun c77 => ?_)
            · refine g_aload_n dX4_text_82 rfl ?_
              refine g_callV0v (c_X4_putsBack) mi_X4_putsBack mv_X4_putsBack ml_X4_147 dX4_text_83 rfl rfl (by decide) (Nat.le_of_ble_eq_true rfl) (Nat.le_of_ble_eq_true rfl) ?_
              rw [setg_n _ _ (show 13 ≠ 14 by decide), setg_n _ _ (show 13 ≠ 11 by decide), setg_c _ (show 14 ≠ 11 by decide), setg_2]
              refine g_iconst dX4_text_86 ic_m1 ?_
              refine g_aload_n dX4_text_87 rfl ?_
              refine g_getI dX4_text_88 fl_X4_191 rfl rfl ?_
              rw [show setg (setg h 11 (h 13)) 14 (upd (hX (setg h 11 Q.2.1) Q.2.2 true 14) 0 0) 14 2 = nI Q.2.2.s from rfl]
              refine g_isub dX4_text_91 ?_
              exact g_ireturn dX4_text_92 rfl rfl
            · exact absurd c77 (by decide)
      · exact absurd rfl c30
    · have b2 := hB b1
      have := b2.2.2 (by omega)
      have := hb (by omega)
      have := hR.2.2.1
      omega
  | succ f ih =>
    intro it m q hit hI hq hb
    have hR := rdI_ok (fl := false) hI hq
    have hB := rdI_b (fl := false) (m := m) hq
    rw [rdT]
    generalize rdI (nx false (cM (h 14)) n) (cM (h 14)) m q = Q at hR hB ⊢
    have hs : Q.2.2.s < 121 := by have := hR.2.1; have := hR.2.2.1; omega
    by_cases b1 : Q.1 = true
    case neg =>
      have bf : Q.1 = false := by cases z : Q.1 with
        | true => exact absurd z b1
        | false => rfl
      rw [if_neg b1]
      refine ⟨(upd (hX (setg h 11 Q.2.1) Q.2.2 true 14) 0 0), zT_M _ _ _ _, ?_⟩
      rw [if_pos (m1s _ hs), bf, Bool.not_false]
      refine g_aload_n dX4_text_24 rfl ?_
      refine g_bipush dX4_text_25 bp_21 ?_
      refine g_callV1i (c_takes_b) mi_X4_takes mv_X4_takes ml_X4_219 dX4_text_27 rfl rfl (by decide) (Nat.le_of_ble_eq_true rfl) (Nat.le_of_ble_eq_true rfl) ?_
      refine g_if_eq 43 dX4_text_30 (by decide) (fun c30 => ?_) (fun c30 => ?_)
      · refine g_aload_n dX4_text_43 rfl ?_
        refine g_aload_n dX4_text_44 rfl ?_
        refine g_getI dX4_text_45 fl_X4_212 rfl rfl ?_
        rw [hX_5]
        refine g_if_ne 60 dX4_text_48 (by decide) (fun c48 => ?_) (fun c48 => ?_)
        · refine g_iconst dX4_text_60 ic_1 ?_
          refine g_goto 65 dX4_text_61 (by decide) ?_
          refine g_put dX4_text_65 fl_X4_212 fp_4_14 rfl rfl rfl rfl ?_
          rw [up_hX5t]
          refine g_aload_n dX4_text_68 rfl ?_
          refine g_iconst dX4_text_69 ic_0 ?_
          refine g_putI dX4_text_70 fl_X4_184 fp_4_9 rfl rfl ?_
          rw [up_setg, setg_hX14]
          refine g_aload_n dX4_text_73 rfl ?_
          refine g_getI dX4_text_74 fl_X4_212 rfl rfl ?_
          rw [show setg (setg h 11 Q.2.1) 14 (upd (hX (setg h 11 Q.2.1) Q.2.2 true 14) 0 0) 14 5 = 1 from rfl]
          refine g_if_ne 82 dX4_text_77 (by decide) (fun c77 => ?_) (fun c77 => ?_)
          · refine g_aload_n dX4_text_82 rfl ?_
            refine g_callV0v (c_X4_putsBack) mi_X4_putsBack mv_X4_putsBack ml_X4_147 dX4_text_83 rfl rfl (by decide) (Nat.le_of_ble_eq_true rfl) (Nat.le_of_ble_eq_true rfl) ?_
            rw [setg_n _ _ (show 13 ≠ 14 by decide), setg_n _ _ (show 13 ≠ 11 by decide), setg_c _ (show 14 ≠ 11 by decide), setg_2]
            refine g_iconst dX4_text_86 ic_m1 ?_
            refine g_aload_n dX4_text_87 rfl ?_
            refine g_getI dX4_text_88 fl_X4_191 rfl rfl ?_
            rw [show setg (setg h 11 (h 13)) 14 (upd (hX (setg h 11 Q.2.1) Q.2.2 true 14) 0 0) 14 2 = nI Q.2.2.s from rfl]
            refine g_isub dX4_text_91 ?_
            exact g_ireturn dX4_text_92 rfl rfl
          · exact absurd c77 (by decide)
        · exact absurd c48 (by decide)
      · exact absurd rfl c30
    by_cases k0 : Q.2.2.k = 0
    case pos =>
      rw [if_pos b1, if_pos k0]
      refine ⟨(upd (hX (setg h 11 Q.2.1) Q.2.2 false 14) 0 0), zT_M _ _ _ _, ?_⟩
      rw [if_neg (nI_pos (by omega)), b1, Bool.not_true]
      have k3b : ¬ Q.2.2.k = 3 := by omega
      refine g_aload_n dX4_text_24 rfl ?_
      refine g_bipush dX4_text_25 bp_21 ?_
      refine g_callV1i (c_takes_f (w := 21) (by decide) (fun z => k3b (cod_21.mp z))) mi_X4_takes mv_X4_takes ml_X4_219 dX4_text_27 rfl rfl (by decide) (Nat.le_of_ble_eq_true rfl) (Nat.le_of_ble_eq_true rfl) ?_
      refine g_if_eq 43 dX4_text_30 (by decide) (fun c30 => ?_) (fun c30 => ?_)
      · refine g_aload_n dX4_text_43 rfl ?_
        refine g_aload_n dX4_text_44 rfl ?_
        refine g_getI dX4_text_45 fl_X4_212 rfl rfl ?_
        rw [hX_5]
        refine g_if_ne 60 dX4_text_48 (by decide) (fun c48 => ?_) (fun c48 => ?_)
        · exact absurd rfl c48
        · refine g_aload_n dX4_text_51 rfl ?_
          refine g_getI dX4_text_52 fl_X4_206 rfl rfl ?_
          rw [hX_1]
          refine g_bipush dX4_text_55 bp_22 ?_
          refine g_icmp_eq 64 dX4_text_57 (by decide) (fun c57 => ?_) (fun c57 => ?_)
          · refine g_iconst dX4_text_64 ic_0 ?_
            refine g_put dX4_text_65 fl_X4_212 fp_4_14 rfl rfl rfl rfl ?_
            rw [up_hX5f]
            refine g_aload_n dX4_text_68 rfl ?_
            refine g_iconst dX4_text_69 ic_0 ?_
            refine g_putI dX4_text_70 fl_X4_184 fp_4_9 rfl rfl ?_
            rw [up_setg, setg_hX14]
            refine g_aload_n dX4_text_73 rfl ?_
            refine g_getI dX4_text_74 fl_X4_212 rfl rfl ?_
            rw [show setg (setg h 11 Q.2.1) 14 (upd (hX (setg h 11 Q.2.1) Q.2.2 false 14) 0 0) 14 5 = 0 from rfl]
            refine g_if_ne 82 dX4_text_77 (by decide) (fun c77 => ?_) (fun c77 => ?_)
            · exact absurd rfl c77
            · refine g_iload_n dX4_text_80 rfl ?_
              exact g_ireturn dX4_text_81 rfl rfl
          · exact absurd (by rw [cod_22.mpr k0]; rfl) c57
      · exact absurd rfl c30
    by_cases k3 : Q.2.2.k = 3
    case neg =>
      rw [if_pos b1, if_neg k0, if_neg k3]
      refine ⟨(upd (hX (setg h 11 Q.2.1) Q.2.2 true 14) 0 0), zT_M _ _ _ _, ?_⟩
      rw [if_pos (m1s _ hs), b1, Bool.not_true]
      refine g_aload_n dX4_text_24 rfl ?_
      refine g_bipush dX4_text_25 bp_21 ?_
      refine g_callV1i (c_takes_f (w := 21) (by decide) (fun z => k3 (cod_21.mp z))) mi_X4_takes mv_X4_takes ml_X4_219 dX4_text_27 rfl rfl (by decide) (Nat.le_of_ble_eq_true rfl) (Nat.le_of_ble_eq_true rfl) ?_
      refine g_if_eq 43 dX4_text_30 (by decide) (fun c30 => ?_) (fun c30 => ?_)
      · refine g_aload_n dX4_text_43 rfl ?_
        refine g_aload_n dX4_text_44 rfl ?_
        refine g_getI dX4_text_45 fl_X4_212 rfl rfl ?_
        rw [hX_5]
        refine g_if_ne 60 dX4_text_48 (by decide) (fun c48 => ?_) (fun c48 => ?_)
        · exact absurd rfl c48
        · refine g_aload_n dX4_text_51 rfl ?_
          refine g_getI dX4_text_52 fl_X4_206 rfl rfl ?_
          rw [hX_1]
          refine g_bipush dX4_text_55 bp_22 ?_
          refine g_icmp_eq 64 dX4_text_57 (by decide) (fun c57 => ?_) (fun c57 => ?_)
          · exact absurd (cod_22.mp ((nI_eq (a := cod _ Q.2.2) (b := 22) (by have := cod_lt (cM (setg h 11 Q.2.1 14)) Q.2.2; omega) (by decide)).mp c57)) k0
          · refine g_iconst dX4_text_60 ic_1 ?_
            refine g_goto 65 dX4_text_61 (by decide) ?_
            refine g_put dX4_text_65 fl_X4_212 fp_4_14 rfl rfl rfl rfl ?_
            rw [up_hX5t]
            refine g_aload_n dX4_text_68 rfl ?_
            refine g_iconst dX4_text_69 ic_0 ?_
            refine g_putI dX4_text_70 fl_X4_184 fp_4_9 rfl rfl ?_
            rw [up_setg, setg_hX14]
            refine g_aload_n dX4_text_73 rfl ?_
            refine g_getI dX4_text_74 fl_X4_212 rfl rfl ?_
            rw [show setg (setg h 11 Q.2.1) 14 (upd (hX (setg h 11 Q.2.1) Q.2.2 true 14) 0 0) 14 5 = 1 from rfl]
            refine g_if_ne 82 dX4_text_77 (by decide) (fun c77 => ?_) (fun c77 => ?_)
            · refine g_aload_n dX4_text_82 rfl ?_
              refine g_callV0v (c_X4_putsBack) mi_X4_putsBack mv_X4_putsBack ml_X4_147 dX4_text_83 rfl rfl (by decide) (Nat.le_of_ble_eq_true rfl) (Nat.le_of_ble_eq_true rfl) ?_
              rw [setg_n _ _ (show 13 ≠ 14 by decide), setg_n _ _ (show 13 ≠ 11 by decide), setg_c _ (show 14 ≠ 11 by decide), setg_2]
              refine g_iconst dX4_text_86 ic_m1 ?_
              refine g_aload_n dX4_text_87 rfl ?_
              refine g_getI dX4_text_88 fl_X4_191 rfl rfl ?_
              rw [show setg (setg h 11 (h 13)) 14 (upd (hX (setg h 11 Q.2.1) Q.2.2 true 14) 0 0) 14 2 = nI Q.2.2.s from rfl]
              refine g_isub dX4_text_91 ?_
              exact g_ireturn dX4_text_92 rfl rfl
            · exact absurd c77 (by decide)
      · exact absurd rfl c30
    · rw [if_pos b1, if_neg k0, if_pos k3]
      have b2 := hB b1
      have b3 := b2.2.2 (by omega)
      have b4 := hb (by omega)
      have hn2 := nx_ok false (cM (h 14)) hR.2.2.1
      obtain ⟨u, hu, K⟩ := ih (it + 1) Q.2.1 ((nx false (cM (h 14)) n) Q.2.2.b) (by omega) hR.1 hn2.1 (fun z => by have := hn2.2.2 z; omega)
      refine ⟨u, hu, ?_⟩
      have KI := c_X4_item (X := X) (h := setg h 11 Q.2.1) (n := n) e0 hn (q := (nx false (cM (h 14)) n) Q.2.2.b) hn2.1 (by rw [setg_s]; exact hR.1)
      rw [setg_n h _ (show 14 ≠ 11 by decide), setg_s, setg_2] at KI
      have KT := c_takes_t (X := X) (h := setg h 11 Q.2.1) (n := n) e0 hn (q := Q.2.2) hR.2 (w := 21) (by decide) (cod_21.mpr k3)
      rw [setg_n h _ (show 14 ≠ 11 by decide)] at KT
      rw [b1, Bool.not_true]
      refine g_aload_n dX4_text_24 rfl ?_
      refine g_bipush dX4_text_25 bp_21 ?_
      refine g_callV1i (KT) mi_X4_takes mv_X4_takes ml_X4_219 dX4_text_27 rfl rfl (by decide) (Nat.le_of_ble_eq_true rfl) (Nat.le_of_ble_eq_true rfl) ?_
      refine g_if_eq 43 dX4_text_30 (by decide) (fun c30 => ?_) (fun c30 => ?_)
      · exact absurd c30 (by decide)
      · refine g_aload_n dX4_text_33 rfl ?_
        refine g_callV0v (KI) mi_X4_item mv_X4_item ml_X4_237 dX4_text_34 rfl rfl (by decide) (Nat.le_of_ble_eq_true rfl) (Nat.le_of_ble_eq_true rfl) ?_
        refine g_iinc dX4_text_37 rfl (ii_n _) (by decide) rfl ?_
        refine g_goto 24 dX4_text_40 (by decide) ?_
        exact K

set_option maxRecDepth 100000 in
set_option maxHeartbeats 4000000 in
theorem c_X4_text {X : Sc} {h : Hp} (hT0 : InT (h 14)) (hI : In (h 11)) : ∃ (u : Rw), zT (h 14) u ∧ Ct X yX4_text cX4_text 2 (some .int) 7 [.ref 28] h (some (.int (rdA false (cM (h 14)) (tpL (h 14)) (h 11)).1)) (setg (setg (setg h 13 (h 11)) 11 (if (rdA false (cM (h 14)) (tpL (h 14)) (h 11)).1 < 0 then h 11 else (rdA false (cM (h 14)) (tpL (h 14)) (h 11)).2.1)) 14 u) := by
  have e0 : h 14 0 = nI (tpL (h 14)) := hT0.2
  have hn := hT0.1
  have hn2 := nx_ok false (cM (h 14)) (n := (tpL (h 14))) (p := 0) (Nat.zero_le _)
  obtain ⟨u, hu, K⟩ := l_X4_text (X := X) (h := setg h 13 (h 11)) (n := (tpL (h 14))) e0 hn 119 1 (h 11) ((nx false (cM (h 14)) (tpL (h 14))) 0) rfl hI hn2.1 (fun z => hn2.2.2 z)
  rw [setg_n h _ (show 14 ≠ 13 by decide), setg_s] at K
  rw [show rdT (nx false (cM (h 14)) (tpL (h 14))) (cM (h 14)) (119 + 1) 1 (h 11) ((nx false (cM (h 14)) (tpL (h 14))) 0) = rdA false (cM (h 14)) (tpL (h 14)) (h 11) from rfl] at K
  refine ⟨u, hu, rfl, ?_⟩
  have ec : cM (up (up (setg h 13 (h 11)) 14 3 0) 14 5 0 14) = cM (h 14) := by
    funext j
    show chM (upd (upd (h 14) 3 0) 5 0 (10 + j)) = _
    rw [upd_n _ _ (by omega), upd_n _ _ (by omega)]
    rfl
  have k0 := c_X4_reads (X := X) (h := up (up (setg h 13 (h 11)) 14 3 0) 14 5 0) (n := (tpL (h 14))) e0 hn (p := 0) rfl (Nat.zero_le _) false rfl
  have eh : ∀ q b, hX (up (up (setg h 13 (h 11)) 14 3 0) 14 5 0) q b = hX (setg h 13 (h 11)) q b := by
    intro q b
    show hV _ (nI (cod (cM (up (up (setg h 13 (h 11)) 14 3 0) 14 5 0 14)) q)) _ _ _ _ = hV _ (nI (cod (cM (h 14)) q)) _ _ _ _
    rw [ec]
    unfold hV
    have e4 : up (up (setg h 13 (h 11)) 14 3 0) 14 5 0 = setg (setg h 13 (h 11)) 14 (upd (upd (h 14) 3 0) 5 0) := by
      rw [up_setg, up_setg, setg_s, setg_2, setg_n h _ (show 14 ≠ 13 by decide)]
    rw [e4, setg_s, setg_2, setg_n h _ (show 14 ≠ 13 by decide)]
    congr 1
    funext j
    unfold wJ upd
    by_cases h1 : j = 1
    · simp [h1]
    · by_cases h2 : j = 2
      · simp [h2]
      · by_cases h3 : j = 3
        · simp [h3]
        · by_cases h4 : j = 4
          · simp [h4]
          · by_cases h5 : j = 5
            · simp [h5]
            · simp [h1, h2, h3, h4, h5]
  rw [eh, ec] at k0
  have KI := c_X4_item (X := X) (h := setg h 13 (h 11)) (n := (tpL (h 14))) e0 hn (q := (nx false (cM (h 14)) (tpL (h 14))) 0) hn2.1 hI
  rw [setg_n h _ (show 14 ≠ 13 by decide), setg_n h _ (show 11 ≠ 13 by decide)] at KI
  refine g_aload_n dX4_text_0 rfl ?_
  refine g_callV0v (c_X4_thinks) mi_X4_thinks mv_X4_thinks ml_X4_144 dX4_text_1 rfl rfl (by decide) (Nat.le_of_ble_eq_true rfl) (Nat.le_of_ble_eq_true rfl) ?_
  refine g_aload_n dX4_text_4 rfl ?_
  refine g_iconst dX4_text_5 ic_0 ?_
  refine g_putI dX4_text_6 fl_X4_194 fp_4_12 rfl rfl ?_
  refine g_aload_n dX4_text_9 rfl ?_
  refine g_iconst dX4_text_10 ic_0 ?_
  refine g_put dX4_text_11 fl_X4_212 fp_4_14 rfl rfl rfl rfl ?_
  refine g_aload_n dX4_text_14 rfl ?_
  refine g_callV0v (k0) mi_X4_reads mv_X4_reads ml_X4_216 dX4_text_15 rfl rfl (by decide) (Nat.le_of_ble_eq_true rfl) (Nat.le_of_ble_eq_true rfl) ?_
  refine g_aload_n dX4_text_18 rfl ?_
  refine g_callV0v (KI) mi_X4_item mv_X4_item ml_X4_237 dX4_text_19 rfl rfl (by decide) (Nat.le_of_ble_eq_true rfl) (Nat.le_of_ble_eq_true rfl) ?_
  refine g_iconst dX4_text_22 ic_1 ?_
  refine g_istore_n dX4_text_23 (by decide) rfl ?_
  exact K

/-! both readers tell the same -/
def sim (q q2 : Tk) : Prop := q.k = q2.k ∧ q.s = q2.s ∧ q.v = q2.v ∧ (q.k ≠ 4 → q.b = q2.b)
section SIM
variable {c : Nat → Nat} {n : Nat}
theorem sim_nx (p : Nat) : sim (nx true c n p) (nx false c n p) := by
  unfold nx
  generalize skp c n (n - p) p = s
  unfold nxt
  by_cases h1 : n ≤ s
  · rw [if_pos h1, if_pos h1]; exact ⟨rfl, rfl, rfl, fun _ => rfl⟩
  · rw [if_neg h1, if_neg h1]
    by_cases h3 : kd (c s) = 3
    · rw [if_pos (Or.inl h3), if_pos (Or.inl h3)]; exact ⟨rfl, rfl, rfl, fun _ => rfl⟩
    · have nT : ¬ (kd (c s) = 3 ∨ (kd (c s) = 4 ∧ true = false)) := fun z => z.elim h3 (fun y => absurd y.2 (by decide))
      by_cases h4 : kd (c s) = 4
      · rw [if_neg nT, if_pos (Or.inr ⟨h4, rfl⟩)]
        refine ⟨rfl, rfl, ?_, fun z => absurd h4 z⟩
        show (if kd (c s) = 2 then _ else 0) = 0
        rw [if_neg (by omega)]
      · have nF : ¬ (kd (c s) = 3 ∨ (kd (c s) = 4 ∧ false = false)) := fun z => z.elim h3 (fun y => h4 y.1)
        rw [if_neg nT, if_neg nF]
        exact ⟨rfl, rfl, rfl, fun _ => rfl⟩
theorem sim_ok {q q2 : Tk} (h : sim q q2) (T : Nat) : okN T q = okN T q2 := by
  unfold okN
  rw [h.1, h.2.2.1]
theorem sim_W {q q2 : Tk} (h : sim q q2) (i : Nat) : isW c q i = isW c q2 i := by
  unfold isW
  by_cases k : q2.k = 1
  · have := h.2.2.2 (by have := h.1; omega)
    rw [h.1, h.2.1, this]
  · rw [h.1, decide_eq_false k, Bool.false_and, Bool.false_and]
theorem sim_N {q q2 : Tk} (h : sim q q2) (k : q.k ≠ 4) : sim (nx true c n q.b) (nx false c n q2.b) := by
  rw [h.2.2.2 k]
  exact sim_nx _
theorem sim_tkN {q q2 : Tk} (h : sim q q2) (T : Nat) : sim (tkN (nx true c n) T q) (tkN (nx false c n) T q2) := by
  unfold tkN
  rw [← sim_ok h]
  by_cases z : okN T q = true
  · rw [if_pos z, if_pos z]
    exact sim_N h (by have := (of_decide_eq_true z).1; omega)
  · rw [if_neg z, if_neg z]; exact h
theorem sim_tkW {q q2 : Tk} (h : sim q q2) (i : Nat) : sim (tkW (nx true c n) c q i) (tkW (nx false c n) c q2 i) := by
  unfold tkW
  rw [← sim_W h]
  by_cases z : isW c q i = true
  · rw [if_pos z, if_pos z]
    exact sim_N h (by have := (isW_k z).1; omega)
  · rw [if_neg z, if_neg z]; exact h
def smR (a b : RdR) : Prop := a.1 = b.1 ∧ a.2.1 = b.2.1 ∧ sim a.2.2 b.2.2
theorem smR_if {P : Prop} [Decidable P] {a b d e : RdR} (h1 : P → smR a b) (h2 : ¬ P → smR d e) : smR (if P then a else d) (if P then b else e) := by
  by_cases z : P
  · rw [if_pos z, if_pos z]; exact h1 z
  · rw [if_neg z, if_neg z]; exact h2 z
theorem smR_f {m : Rw} {q q2 : Tk} (h : sim q q2) (b : Bool) : smR (b, m, q) (b, m, q2) := ⟨rfl, rfl, h⟩
theorem sim_D5 {m : Rw} {k l r p s : Int32} {q q2 : Tk} (h : sim q q2) : smR (rdD5 (nx true c n) c m k l r p s q) (rdD5 (nx false c n) c m k l r p s q2) := by
  unfold rdD5
  rw [← sim_W h]
  exact ⟨rfl, rfl, sim_tkW h _⟩
theorem sim_D4 {m : Rw} {k l r p : Int32} {q q2 : Tk} (h : sim q q2) : smR (rdD4 (nx true c n) c m k l r p q) (rdD4 (nx false c n) c m k l r p q2) := by
  unfold rdD4
  rw [← sim_W h]
  refine smR_if (fun w => ?_) (fun _ => sim_D5 h)
  have h2 := sim_N (c := c) (n := n) h (by have := (isW_k w).1; omega)
  rw [← sim_ok h2, ← h2.2.2.1]
  exact smR_if (fun _ => sim_D5 (sim_tkN h2 _)) (fun _ => smR_f h2 _)
theorem sim_D3 {m : Rw} {k l r : Int32} {q q2 : Tk} (h : sim q q2) : smR (rdD3 (nx true c n) c m k l r q) (rdD3 (nx false c n) c m k l r q2) := by
  unfold rdD3
  rw [← sim_W h]
  refine smR_if (fun w => ?_) (fun _ => sim_D4 h)
  have h2 := sim_N (c := c) (n := n) h (by have := (isW_k w).1; omega)
  rw [← sim_ok h2, ← h2.2.2.1]
  exact smR_if (fun _ => sim_D4 (sim_tkN h2 _)) (fun _ => smR_f h2 _)
theorem sim_D2 {m : Rw} {k l : Int32} {q q2 : Tk} (h : sim q q2) : smR (rdD2 (nx true c n) c m k l q) (rdD2 (nx false c n) c m k l q2) := by
  unfold rdD2
  rw [← sim_ok h, ← h.2.2.1]
  exact smR_if (fun _ => sim_D3 (sim_tkN h _)) (fun _ => smR_f h _)
theorem sim_D1 {m : Rw} {k : Int32} {q q2 : Tk} (h : sim q q2) : smR (rdD1 (nx true c n) c m k q) (rdD1 (nx false c n) c m k q2) := by
  unfold rdD1
  rw [← sim_ok h, ← h.2.2.1]
  exact smR_if (fun _ => sim_D2 (sim_tkN h _)) (fun _ => smR_f h _)
theorem sim_D {m : Rw} {k : Int32} {q q2 : Tk} (h : sim q q2) (k1 : q.k = 1) : smR (rdD (nx true c n) c m k q) (rdD (nx false c n) c m k q2) := by
  unfold rdD
  exact smR_if (fun _ => sim_D1 (sim_N h (by omega))) (fun _ => smR_f h _)
theorem sim_G2 {m : Rw} {b : Int32} {q q2 : Tk} (h : sim q q2) : smR (rdG2 (nx true c n) c m b q) (rdG2 (nx false c n) c m b q2) := by
  unfold rdG2
  rw [← sim_W h]
  refine smR_if (fun w => ?_) (fun _ => smR_f h _)
  have h2 := sim_N (c := c) (n := n) h (by have := (isW_k w).1; omega)
  rw [← sim_ok h2, ← h2.2.2.1]
  exact smR_if (fun _ => ⟨rfl, rfl, sim_tkN h2 _⟩) (fun _ => smR_f h2 _)
theorem sim_G {m : Rw} {q q2 : Tk} (h : sim q q2) (k1 : q.k = 1) : smR (rdG (nx true c n) c m q) (rdG (nx false c n) c m q2) := by
  unfold rdG
  refine smR_if (fun _ => ?_) (fun _ => smR_f h _)
  have h2 := sim_N (c := c) (n := n) h (by omega)
  unfold rdG1
  rw [← sim_ok h2, ← h2.2.2.1]
  exact smR_if (fun _ => sim_G2 (sim_tkN h2 _)) (fun _ => smR_f h2 _)
theorem sim_M3 {m : Rw} {i g : Nat} {q q2 : Tk} (h : sim q q2) : smR (rdM3 (nx true c n) m i g q) (rdM3 (nx false c n) m i g q2) := by
  unfold rdM3
  rw [← sim_ok h, ← h.2.2.1]
  exact smR_if (fun _ => ⟨rfl, rfl, sim_tkN h _⟩) (fun _ => smR_f h _)
theorem sim_M2 {m : Rw} {i : Nat} {q q2 : Tk} (h : sim q q2) : smR (rdM2 (nx true c n) m i q) (rdM2 (nx false c n) m i q2) := by
  unfold rdM2
  rw [← sim_ok h, ← h.2.2.1]
  exact smR_if (fun _ => sim_M3 (sim_tkN h _)) (fun _ => smR_f h _)
theorem sim_E {m : Rw} {q q2 : Tk} (h : sim q q2) (k1 : q.k = 1) : smR (rdE (nx true c n) m q) (rdE (nx false c n) m q2) := by
  unfold rdE
  have h2 := sim_N (c := c) (n := n) h (by omega)
  unfold rdM1
  rw [← sim_ok h2, ← h2.2.2.1]
  exact smR_if (fun _ => sim_M2 (sim_tkN h2 _)) (fun _ => smR_f h2 _)
theorem sim_K {m : Rw} {q q2 : Tk} (h : sim q q2) : ∀ f k, smR (rdK (nx true c n) c m q f k) (rdK (nx false c n) c m q2 f k)
  | 0, k => smR_f h _
  | f + 1, k => by
    unfold rdK
    rw [← sim_W h]
    exact smR_if (fun w => sim_D h (isW_k w).1) (fun _ => sim_K h f (k + 1))
theorem sim_I {m : Rw} {q q2 : Tk} (h : sim q q2) : smR (rdI (nx true c n) c m q) (rdI (nx false c n) c m q2) := by
  unfold rdI
  rw [← sim_W h, ← sim_W h]
  exact smR_if (fun w => sim_G h (isW_k w).1) (fun _ => smR_if (fun w => sim_E h (isW_k w).1) (fun _ => sim_K h 7 0))
theorem sim_T : ∀ f it (m : Rw) (q q2 : Tk), sim q q2 → (rdT (nx true c n) c f it m q).1 = (rdT (nx false c n) c f it m q2).1 ∧ (rdT (nx true c n) c f it m q).2.1 = (rdT (nx false c n) c f it m q2).2.1
  | 0, it, m, q, q2, h => ⟨by show -1 - nI q.s = -1 - nI q2.s; rw [h.2.1], rfl⟩
  | f + 1, it, m, q, q2, h => by
    have h1 := sim_I (c := c) (n := n) (m := m) h
    rw [rdT, rdT]
    generalize rdI (nx true c n) c m q = a at h1 ⊢
    generalize rdI (nx false c n) c m q2 = b at h1 ⊢
    obtain ⟨x1, x2, x3⟩ := h1
    rw [← x1, ← x2, ← x3.1, ← x3.2.1]
    by_cases z : a.1 = true
    · rw [if_pos z, if_pos z]
      by_cases z0 : a.2.2.k = 0
      · rw [if_pos z0, if_pos z0]; exact ⟨rfl, rfl⟩
      · rw [if_neg z0, if_neg z0]
        by_cases z3 : a.2.2.k = 3
        · rw [if_pos z3, if_pos z3]
          exact sim_T f (it + 1) a.2.1 _ _ (sim_N x3 (by omega))
        · rw [if_neg z3, if_neg z3]; exact ⟨rfl, rfl⟩
    · rw [if_neg z, if_neg z]; exact ⟨rfl, rfl⟩
theorem rdA_same (m : Rw) : (rdA true c n m).1 = (rdA false c n m).1 ∧ (rdA true c n m).2.1 = (rdA false c n m).2.1 := sim_T 120 1 m _ _ (sim_nx 0)
end SIM
theorem rdT_In {fl : Bool} {c : Nat → Nat} {n : Nat} : ∀ f it (m : Rw) (q : Tk), In m → TkOk c n q → In (rdT (nx fl c n) c f it m q).2.1
  | 0, it, m, q, h, _ => h
  | f + 1, it, m, q, h, hq => by
    have h1 := rdI_ok (fl := fl) h hq
    rw [rdT]
    generalize rdI (nx fl c n) c m q = a at h1 ⊢
    by_cases z : a.1 = true
    · rw [if_pos z]
      by_cases z0 : a.2.2.k = 0
      · rw [if_pos z0]; exact h1.1
      · rw [if_neg z0]
        by_cases z3 : a.2.2.k = 3
        · rw [if_pos z3]
          exact rdT_In f (it + 1) a.2.1 _ h1.1 (ok_N h1.2)
        · rw [if_neg z3]; exact h1.1
    · rw [if_neg z]; exact h1.1
theorem rdA_In {fl : Bool} {c : Nat → Nat} {n : Nat} {m : Rw} (h : In m) : In (rdA fl c n m).2.1 := rdT_In 120 1 m _ h (nx_ok fl c (Nat.zero_le _)).1

