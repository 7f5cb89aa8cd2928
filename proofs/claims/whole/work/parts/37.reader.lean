/-! THE CLASS'S READER -/
theorem hT_hT (h : Hp) (q q2 : Tk) : hT (hT h q) q2 = hT h q2 := hW_hW _ _ _ _ _ _ _ _ _
theorem hT_g (h : Hp) (q : Tk) {g : Nat} (n : g ≠ 4) : hT h q g = h g := hW_g _ _ _ _ _ n
theorem hT_0 (h : Hp) (q : Tk) : hT h q 4 0 = h 4 0 := rfl
theorem hT_3 (h : Hp) (q : Tk) : hT h q 4 3 = nI q.b := rfl
theorem cC_hT (h : Hp) (q : Tk) : cC (hT h q 4) = cC (h 4) := by
  funext j
  show chC (hW h (nI q.k) (nI q.s) (nI q.b) (nI q.v) 4 (10 + j)) = _
  rw [hW_b]
  rfl
theorem setg_hT (h : Hp) (q : Tk) {g : Nat} (n : g ≠ 4) (m : Rw) : setg (hT h q) g m = hT (setg h g m) q := setg_hW _ _ _ _ _ n _
theorem c_X2_next {X : Sc} {h : Hp} {n : Nat} (e0 : h 4 0 = nI n) (hn : n ≤ 120) {q : Tk} (hb : q.b ≤ n) : Ct X yX2_nextToken cX2_nextToken 1 none 1 [.ref 16] (hT h q) none (hT h (nx true (cC (h 4)) n q.b)) := by
  have k := c_X2_nextToken (X := X) (h := hT h q) (n := n) (p := q.b) e0 hn rfl hb
  rw [hT_hT, cC_hT] at k
  exact k

set_option maxRecDepth 100000 in
set_option maxHeartbeats 4000000 in
theorem l_X2_isWord {X : Sc} {h : Hp} {q : Tk} {i : Nat} (hi : i < 13) (hsb : q.s ≤ q.b) (hb : q.b ≤ 120) (hl : q.b - q.s = txLen.getD i 0) : ∀ k, k ≤ txLen.getD i 0 → mtc (cC (h 4)) q.s i k = true → Go X RX2 cX2_isWord 3 4 28 [.ref 16, .ref (110 + i), .int (nI k)] [] (hW h (nI q.k) (nI q.s) (nI q.b) (nI q.v)) (some (.int (bI (mtc (cC (h 4)) q.s i (txLen.getD i 0))))) (hW h (nI q.k) (nI q.s) (nI q.b) (nI q.v)) := by
  have hL := tx_small i hi
  refine loop_up (txLen.getD i 0) ?_ ?_
  · intro hy
    refine g_iload_n dX2_isWord_28 rfl ?_
    refine g_aload_n dX2_isWord_29 rfl ?_
    refine g_callT (as := []) hi (c_J0_length hi) mi_J0_length_8abf5 mv_J0_length_8abf5 ml_X2_98 dX2_isWord_30 rfl (by decide) rfl rfl (Nat.le_of_ble_eq_true rfl) (Nat.le_of_ble_eq_true rfl) ?_
    show Go _ _ _ _ _ _ _ [.int (nI (txLen.getD i 0)), .int (nI _)] _ _ _
    refine g_icmp_ge 63 dX2_isWord_33 (by decide) (fun c33 => ?_) (fun c33 => ?_)
    · refine g_iconst dX2_isWord_63 ic_1 ?_
      exact g_ireturn dX2_isWord_64 (by rw [hy]; rfl) rfl
    · exact (lp_yes rfl (by omega) c33).elim
  · intro k hk ih hy
    have hc := chr_ok i hi k hk
    refine g_iload_n dX2_isWord_28 rfl ?_
    refine g_aload_n dX2_isWord_29 rfl ?_
    refine g_callT (as := []) hi (c_J0_length hi) mi_J0_length_8abf5 mv_J0_length_8abf5 ml_X2_98 dX2_isWord_30 rfl (by decide) rfl rfl (Nat.le_of_ble_eq_true rfl) (Nat.le_of_ble_eq_true rfl) ?_
    show Go _ _ _ _ _ _ _ [.int (nI (txLen.getD i 0)), .int (nI _)] _ _ _
    refine g_icmp_ge 63 dX2_isWord_33 (by decide) (fun c33 => ?_) (fun c33 => ?_)
    · exact (lp_no rfl (by omega) hk c33).elim
    · refine g_aload_n dX2_isWord_36 rfl ?_
      refine g_getR dX2_isWord_37 fl_X2_9 rfl rfl ?_
      refine g_aload_n dX2_isWord_40 rfl ?_
      refine g_getI dX2_isWord_41 fl_X2_30 rfl rfl ?_
      rw [hW_2]
      refine g_iload_n dX2_isWord_44 rfl ?_
      refine g_iadd dX2_isWord_45 ?_
      rw [nI_add]
      refine g_bald (q.s + k) dX2_isWord_46 rfl rfl (by omega) ?_
      rw [hW_b]
      refine g_aload_n dX2_isWord_47 rfl ?_
      refine g_iload_n dX2_isWord_48 rfl ?_
      refine g_callT (as := [.int (nI k)]) hi (c_J0_charAt hi hk) mi_J0_charAt_5068e mv_J0_charAt_5068e ml_X2_103 dX2_isWord_49 rfl (by decide) rfl rfl (Nat.le_of_ble_eq_true rfl) (Nat.le_of_ble_eq_true rfl) ?_
      show Go _ _ _ _ _ _ _ [.int (txC i k), .int (h 4 (10 + (q.s + k)))] _ _ _
      rw [hc.1]
      refine g_icmp_eq 57 dX2_isWord_52 (by decide) (fun c52 => ?_) (fun c52 => ?_)
      · refine g_iinc dX2_isWord_57 rfl (ii_n _) (by decide) rfl ?_
        refine g_goto 28 dX2_isWord_60 (by decide) ?_
        exact ih (by show (mtc (cC (h 4)) q.s i k && decide (cC (h 4) (q.s + k) = chr i k)) = true; rw [hy, Bool.true_and, decide_eq_true_eq]; exact (chC_eq (by omega)).mp c52)
      · refine g_iconst dX2_isWord_55 ic_0 ?_
        exact g_ireturn dX2_isWord_56 (by
          have e1 : mtc (cC (h 4)) q.s i (k + 1) = false := by
            show (mtc (cC (h 4)) q.s i k && decide (cC (h 4) (q.s + k) = chr i k)) = false
            rw [hy, Bool.true_and, decide_eq_false_iff_not]
            exact fun z => c52 ((chC_eq (by omega)).mpr z)
          have e2 := mtc_f e1 (txLen.getD i 0 - (k + 1))
          rw [show k + 1 + (txLen.getD i 0 - (k + 1)) = txLen.getD i 0 by omega] at e2
          rw [e2]
          rfl) rfl

set_option maxRecDepth 100000 in
set_option maxHeartbeats 4000000 in
theorem c_X2_isWord {X : Sc} {h : Hp} {q : Tk} {i : Nat} (hi : i < 13) (hsb : q.s ≤ q.b) (hb : q.b ≤ 120) (hk4 : q.k ≤ 4) : Ct X yX2_isWord cX2_isWord 3 (some .boolean) 4 [.ref 16, .ref (110 + i)] (hT h q) (some (.int (bI (isW (cC (h 4)) q i)))) (hT h q) := by
  have hL := tx_small i hi
  unfold hT
  refine ⟨rok_b _, ?_⟩
  refine g_aload_n dX2_isWord_0 rfl ?_
  refine g_getI dX2_isWord_1 fl_X2_27 rfl rfl ?_
  rw [hW_1]
  refine g_iconst dX2_isWord_4 ic_1 ?_
  refine g_icmp_ne 24 dX2_isWord_5 (by decide) (fun c5 => ?_) (fun c5 => ?_)
  · refine g_iconst dX2_isWord_24 ic_0 ?_
    refine g_ireturn dX2_isWord_25 ?_ rfl
    have z : ¬ q.k = 1 := fun z => c5 (by rw [z]; rfl)
    rw [isW, decide_eq_false z]
    rfl
  · refine g_aload_n dX2_isWord_8 rfl ?_
    refine g_getI dX2_isWord_9 fl_X2_17 rfl rfl ?_
    rw [hW_3]
    refine g_aload_n dX2_isWord_12 rfl ?_
    refine g_getI dX2_isWord_13 fl_X2_30 rfl rfl ?_
    rw [hW_2]
    refine g_isub dX2_isWord_16 ?_
    rw [pk_sub hsb]
    refine g_aload_n dX2_isWord_17 rfl ?_
    refine g_callT (as := []) hi (c_J0_length hi) mi_J0_length_8abf5 mv_J0_length_8abf5 ml_X2_98 dX2_isWord_18 rfl (by decide) rfl rfl (Nat.le_of_ble_eq_true rfl) (Nat.le_of_ble_eq_true rfl) ?_
    show Go _ _ _ _ _ _ _ [.int (nI (txLen.getD i 0)), .int (nI (q.b - q.s))] _ _ _
    refine g_icmp_eq 26 dX2_isWord_21 (by decide) (fun c21 => ?_) (fun c21 => ?_)
    · refine g_iconst dX2_isWord_26 ic_0 ?_
      refine g_istore_n dX2_isWord_27 (by decide) rfl ?_
      have k1 : q.k = 1 := (nI_eq (a := q.k) (b := 1) (by omega) (by decide)).mp c5
      have l1 : q.b - q.s = txLen.getD i 0 := (nI_eq (by omega) (by omega)).mp c21
      have K := l_X2_isWord (X := X) (h := h) hi hsb hb l1 0 (Nat.zero_le _) rfl
      have e : isW (cC (h 4)) q i = mtc (cC (h 4)) q.s i (txLen.getD i 0) := by rw [isW, decide_eq_true k1, decide_eq_true l1, Bool.true_and, Bool.true_and]
      rw [e]
      exact K
    · refine g_iconst dX2_isWord_24 ic_0 ?_
      refine g_ireturn dX2_isWord_25 ?_ rfl
      have z : ¬ q.b - q.s = txLen.getD i 0 := fun z => c21 (by rw [z])
      rw [isW, decide_eq_false z, Bool.false_and, Bool.and_false]
      rfl

set_option maxRecDepth 100000 in
set_option maxHeartbeats 4000000 in
theorem c_X2_takeWord {X : Sc} {h : Hp} {n : Nat} (e0 : h 4 0 = nI n) (hn : n ≤ 120) {q : Tk} (hq : TkOk (cC (h 4)) n q) {i : Nat} (hi : i < 13) : Ct X yX2_takeWord cX2_takeWord 2 (some .boolean) 5 [.ref 16, .ref (110 + i)] (hT h q) (some (.int (bI (isW (cC (h 4)) q i)))) (hT h (tkW (nx true (cC (h 4)) n) (cC (h 4)) q i)) := by
  refine ⟨rok_b _, ?_⟩
  refine g_aload_n dX2_takeWord_0 rfl ?_
  refine g_aload_n dX2_takeWord_1 rfl ?_
  refine g_callV1i (c_X2_isWord hi hq.1 (by have := hq.2.1; omega) hq.2.2.2) mi_X2_isWord mv_X2_isWord ml_X2_35 dX2_takeWord_2 rfl rfl (by decide) (Nat.le_of_ble_eq_true rfl) (Nat.le_of_ble_eq_true rfl) ?_
  refine g_if_ne 10 dX2_takeWord_5 (by decide) (fun c5 => ?_) (fun c5 => ?_)
  · have z : isW (cC (h 4)) q i = true := by cases z : isW (cC (h 4)) q i with
      | true => rfl
      | false => exact absurd (by rw [z]; rfl) c5
    refine g_aload_n dX2_takeWord_10 rfl ?_
    refine g_callV0v (c_X2_next e0 hn hq.2.1) mi_X2_nextToken mv_X2_nextToken ml_X2_20 dX2_takeWord_11 rfl rfl (by decide) (Nat.le_of_ble_eq_true rfl) (Nat.le_of_ble_eq_true rfl) ?_
    refine g_iconst dX2_takeWord_14 ic_1 ?_
    exact g_ireturn dX2_takeWord_15 (by rw [z]; rfl) (by rw [tkW, z]; rfl)
  · have z : isW (cC (h 4)) q i = false := (bI_0 _).mp c5
    refine g_iconst dX2_takeWord_8 ic_0 ?_
    exact g_ireturn dX2_takeWord_9 (by rw [z]; rfl) (by rw [tkW, z]; rfl)

set_option maxRecDepth 100000 in
set_option maxHeartbeats 4000000 in
theorem c_X2_takeNumber {X : Sc} {h : Hp} {n : Nat} (e0 : h 4 0 = nI n) (hn : n ≤ 120) {q : Tk} (hq : TkOk (cC (h 4)) n q) {T : Nat} (hT0 : T ≤ 9999) : Ct X yX2_takeNumber cX2_takeNumber 3 (some .int) 2 [.ref 16, .int (nI T)] (hT h q) (some (.int (tnV T q))) (hT h (tkN (nx true (cC (h 4)) n) T q)) := by
  rw [show hT h q = hW h (nI q.k) (nI q.s) (nI q.b) (nI q.v) from rfl]
  refine ⟨rfl, ?_⟩
  refine g_aload_n dX2_takeNumber_0 rfl ?_
  refine g_getI dX2_takeNumber_1 fl_X2_27 rfl rfl ?_
  rw [hW_1]
  refine g_iconst dX2_takeNumber_4 ic_2 ?_
  refine g_icmp_ne 16 dX2_takeNumber_5 (by decide) (fun c5 => ?_) (fun c5 => ?_)
  · have z : okN T q = false := decide_eq_false (fun z => by first | exact c5 (by rw [z.1]; rfl) | exact c13 (nI_le z.2 (by omega)))
    refine g_iconst dX2_takeNumber_16 ic_m1 ?_
    exact g_ireturn dX2_takeNumber_17 (by rw [tnV, z]; rfl) (by rw [tkN, z]; rfl)
  · refine g_aload_n dX2_takeNumber_8 rfl ?_
    refine g_getI dX2_takeNumber_9 fl_X2_95 rfl rfl ?_
    rw [hW_4]
    refine g_iload_n dX2_takeNumber_12 rfl ?_
    refine g_icmp_le 18 dX2_takeNumber_13 (by decide) (fun c13 => ?_) (fun c13 => ?_)
    · have z : okN T q = true := decide_eq_true ⟨(nI_eq (a := q.k) (b := 2) (by have := hq.2.2.2; omega) (by decide)).mp c5, (nI_leI (by have := hq.2.2.1; omega) (by omega)).mp c13⟩
      refine g_aload_n dX2_takeNumber_18 rfl ?_
      refine g_getI dX2_takeNumber_19 fl_X2_95 rfl rfl ?_
      rw [hW_4]
      refine g_istore_n dX2_takeNumber_22 (by decide) rfl ?_
      refine g_aload_n dX2_takeNumber_23 rfl ?_
      refine g_callV0v ((c_X2_next e0 hn hq.2.1 : Ct X yX2_nextToken cX2_nextToken 1 none 1 [.ref 16] (hW h (nI q.k) (nI q.s) (nI q.b) (nI q.v)) none (hT h (nx true (cC (h 4)) n q.b)))) mi_X2_nextToken mv_X2_nextToken ml_X2_20 dX2_takeNumber_24 rfl rfl (by decide) (Nat.le_of_ble_eq_true rfl) (Nat.le_of_ble_eq_true rfl) ?_
      refine g_iload_n dX2_takeNumber_27 rfl ?_
      exact g_ireturn dX2_takeNumber_28 (by rw [tnV, z]; rfl) (by rw [tkN, z]; rfl)
    · have z : okN T q = false := decide_eq_false (fun z => by first | exact c5 (by rw [z.1]; rfl) | exact c13 (nI_le z.2 (by omega)))
      refine g_iconst dX2_takeNumber_16 ic_m1 ?_
      exact g_ireturn dX2_takeNumber_17 (by rw [tnV, z]; rfl) (by rw [tkN, z]; rfl)

/-! what an item tells -/
theorem tkN_f {N : Nat → Tk} {T : Nat} {q : Tk} (h : okN T q = false) : tkN N T q = q := by rw [tkN, h]; rfl
theorem tkN_t {N : Nat → Tk} {T : Nat} {q : Tk} (h : okN T q = true) : tkN N T q = N q.b := by rw [tkN, h]; rfl
theorem tkW_f {N : Nat → Tk} {c : Nat → Nat} {q : Tk} {i : Nat} (h : isW c q i = false) : tkW N c q i = q := by rw [tkW, h]; rfl
theorem tkW_t {N : Nat → Tk} {c : Nat → Nat} {q : Tk} {i : Nat} (h : isW c q i = true) : tkW N c q i = N q.b := by rw [tkW, h]; rfl
theorem ok_N {fl : Bool} {c : Nat → Nat} {n : Nat} {q : Tk} (h : TkOk c n q) : TkOk c n (nx fl c n q.b) := (nx_ok fl c h.2.1).1
theorem ok_tkN {fl : Bool} {c : Nat → Nat} {n T : Nat} {q : Tk} (h : TkOk c n q) : TkOk c n (tkN (nx fl c n) T q) := by
  unfold tkN
  split
  · exact ok_N h
  · exact h
theorem ok_tkW {fl : Bool} {c : Nat → Nat} {n i : Nat} {q : Tk} (h : TkOk c n q) : TkOk c n (tkW (nx fl c n) c q i) := by
  unfold tkW
  split
  · exact ok_N h
  · exact h
abbrev RdR : Type := Bool × Rw × Tk
def rdD5 (N : Nat → Tk) (c : Nat → Nat) (m : Rw) (k l r p s : Int32) (q : Tk) : RdR := (true, pD (pD (pD (newD m k l r) (nD m) 3 p) (nD m) 4 s) (nD m) 5 (bI (isW c q 12)), tkW N c q 12)
def rdD4 (N : Nat → Tk) (c : Nat → Nat) (m : Rw) (k l r p : Int32) (q : Tk) : RdR := if isW c q 11 = true then (if okN 9999 (N q.b) = true then rdD5 N c m k l r p (nI (N q.b).v) (tkN N 9999 (N q.b)) else (false, m, N q.b)) else rdD5 N c m k l r p 0 q
def rdD3 (N : Nat → Tk) (c : Nat → Nat) (m : Rw) (k l r : Int32) (q : Tk) : RdR := if isW c q 10 = true then (if okN 99 (N q.b) = true then rdD4 N c m k l r (nI (N q.b).v) (tkN N 99 (N q.b)) else (false, m, N q.b)) else rdD4 N c m k l r 10 q
def rdD2 (N : Nat → Tk) (c : Nat → Nat) (m : Rw) (k l : Int32) (q : Tk) : RdR := if okN 11 q = true then rdD3 N c m k l (nI q.v) (tkN N 11 q) else (false, m, q)
def rdD1 (N : Nat → Tk) (c : Nat → Nat) (m : Rw) (k : Int32) (q : Tk) : RdR := if okN 11 q = true then rdD2 N c m k (nI q.v) (tkN N 11 q) else (false, m, q)
def rdD (N : Nat → Tk) (c : Nat → Nat) (m : Rw) (k : Int32) (q : Tk) : RdR := if nD m < 8 then rdD1 N c m k (N q.b) else (false, m, q)
def rdG2 (N : Nat → Tk) (c : Nat → Nat) (m : Rw) (b : Int32) (q : Tk) : RdR := if isW c q 1 = true then (if okN 11 (N q.b) = true then (true, newG2 m b (nI (N q.b).v), tkN N 11 (N q.b)) else (false, m, N q.b)) else (true, newG2 m b 0, q)
def rdG1 (N : Nat → Tk) (c : Nat → Nat) (m : Rw) (q : Tk) : RdR := if okN 99 q = true then rdG2 N c m (nI q.v) (tkN N 99 q) else (false, m, q)
def rdG (N : Nat → Tk) (c : Nat → Nat) (m : Rw) (q : Tk) : RdR := if nG m < 6 then rdG1 N c m (N q.b) else (false, m, q)
def rdM3 (N : Nat → Tk) (m : Rw) (i g : Nat) (q : Tk) : RdR := if okN 7 q = true then (true, upd m (4 + i) (10 * nI g + nI q.v), tkN N 7 q) else (false, m, q)
def rdM2 (N : Nat → Tk) (m : Rw) (i : Nat) (q : Tk) : RdR := if okN 5 q = true then rdM3 N m i q.v (tkN N 5 q) else (false, m, q)
def rdM1 (N : Nat → Tk) (m : Rw) (q : Tk) : RdR := if okN 5 q = true then rdM2 N m q.v (tkN N 5 q) else (false, m, q)
def rdE (N : Nat → Tk) (m : Rw) (q : Tk) : RdR := rdM1 N m (N q.b)
def kdS (k : Nat) : Nat := if k = 0 then 9 else k + 2
def rdK (N : Nat → Tk) (c : Nat → Nat) (m : Rw) (q : Tk) : Nat → Nat → RdR
  | 0, _ => (false, m, q)
  | f + 1, k => if isW c q (kdS k) = true then rdD N c m (nI k) q else rdK N c m q f (k + 1)
def rdI (N : Nat → Tk) (c : Nat → Nat) (m : Rw) (q : Tk) : RdR := if isW c q 0 = true then rdG N c m q else if isW c q 2 = true then rdE N m q else rdK N c m q 7 0
def rdT (N : Nat → Tk) (c : Nat → Nat) : Nat → Nat → Rw → Tk → Int32 × Rw × Tk
  | 0, _, m, q => (-1 - nI q.s, m, q)
  | f + 1, it, m, q => if (rdI N c m q).1 = true then (if (rdI N c m q).2.2.k = 0 then (nI it, (rdI N c m q).2.1, (rdI N c m q).2.2) else if (rdI N c m q).2.2.k = 3 then rdT N c f (it + 1) (rdI N c m q).2.1 (N (rdI N c m q).2.2.b) else (-1 - nI (rdI N c m q).2.2.s, (rdI N c m q).2.1, (rdI N c m q).2.2)) else (-1 - nI (rdI N c m q).2.2.s, (rdI N c m q).2.1, (rdI N c m q).2.2)
theorem newG_for (m : Rw) (b t : Int32) : pG (newG m b) (nG m) 1 t = newG2 m b t := by
  unfold newG newG2 pG
  rw [upd_c _ (show 58 + (nG m * 5 + 4) ≠ 58 + (nG m * 5 + 1) by omega), upd_c _ (show 58 + (nG m * 5 + 3) ≠ 58 + (nG m * 5 + 1) by omega), upd_c _ (show 58 + (nG m * 5 + 2) ≠ 58 + (nG m * 5 + 1) by omega), upd_2]
/-! what holds of a row stays -/
theorem In_upd {m : Rw} (h : In m) {k x : Nat} (hk : k < 88) (k1 : k ≠ 1) (k2 : k ≠ 2) (hx : okc k x) : In (upd m k (nI x)) := by
  refine ⟨fun j hj j1 => ?_, fun s hs => ?_⟩
  · by_cases e : j = k
    · subst e; exact ⟨x, hx, upd_s _ _ _⟩
    · obtain ⟨y, hy, e2⟩ := h.1 j hj j1
      exact ⟨y, hy, by rw [upd_n _ _ e, e2]⟩
  · have e : nD (upd m k (nI x)) = nD m := by unfold nD; rw [upd_n _ _ (fun q => k2 q.symm)]
    rw [upd_n _ _ (show 88 + s ≠ k by omega), e]
    exact h.2 s hs
theorem okc_d {d w x : Nat} (hd : d < 8) (hw : w < 6) (hx : x ≤ dTop w) : okc (10 + (d * 6 + w)) x := by
  unfold okc
  rw [if_neg (by omega), if_neg (by omega), if_neg (by omega), if_neg (by omega), if_pos (by omega), show (10 + (d * 6 + w) - 10) % 6 = w by omega]
  exact hx
theorem okc_g {g w x : Nat} (hg : g < 6) (hw : w < 5) (hx : x ≤ gTop w) : okc (58 + (g * 5 + w)) x := by
  unfold okc
  rw [if_neg (by omega), if_neg (by omega), if_neg (by omega), if_neg (by omega), if_neg (by omega), show (58 + (g * 5 + w) - 58) % 5 = w by omega]
  exact hx
theorem In_pD {m : Rw} (h : In m) {d w x : Nat} (hd : d < 8) (hw : w < 6) (hx : x ≤ dTop w) : In (pD m d w (nI x)) := In_upd h (by omega) (by omega) (by omega) (okc_d hd hw hx)
theorem In_pG {m : Rw} (h : In m) {g w x : Nat} (hg : g < 6) (hw : w < 5) (hx : x ≤ gTop w) : In (pG m g w (nI x)) := In_upd h (by omega) (by omega) (by omega) (okc_g hg hw hx)
theorem In_moreD {m : Rw} (h : In m) (hn : nD m < 8) : In (upd m 2 (m 2 + 1)) := by
  have h2 := h.nD.2
  have e : nD (upd m 2 (m 2 + 1)) = nD m + 1 := by show ((upd m 2 (m 2 + 1)) 2).toNatClampNeg = _; rw [upd_s, h2, nI_1, nI_clamp (by omega)]
  refine ⟨fun j hj j1 => ?_, fun s hs => ?_⟩
  · by_cases e : j = 2
    · subst e; exact ⟨nD m + 1, by show (if 2 = 0 then nD m + 1 ≤ 99999 else if 2 = 2 then nD m + 1 ≤ 8 else _) ; simp; omega, by rw [upd_s, h2, nI_1]⟩
    · obtain ⟨y, hy, e2⟩ := h.1 j hj j1
      exact ⟨y, hy, by rw [upd_n _ _ e, e2]⟩
  · rw [upd_n _ _ (show 88 + s ≠ 2 by omega), e]
    rcases h.2 s hs with q | ⟨x, q1, q2⟩
    · exact Or.inl q
    · exact Or.inr ⟨x, by omega, q2⟩
theorem In_moreG {m : Rw} (h : In m) (hn : nG m < 6) : In (upd m 3 (m 3 + 1)) := by
  rw [h.nG.2, nI_1]
  refine In_upd h (by omega) (by omega) (by omega) ?_
  show (if 3 = 0 then nG m + 1 ≤ 99999 else if 3 = 2 then nG m + 1 ≤ 8 else if 3 = 3 then nG m + 1 ≤ 6 else _)
  simp; omega
theorem In_newD {m : Rw} (h : In m) (hn : nD m < 8) {k l r : Nat} (hk : k ≤ 6) (hl : l ≤ 11) (hr : r ≤ 11) : In (newD m (nI k) (nI l) (nI r)) := by
  unfold newD
  exact In_pD (In_pD (In_pD (In_pD (In_pD (In_pD (In_moreD h hn) hn (by decide) (by exact hk)) hn (by decide) (by exact hl)) hn (by decide) (by exact hr)) (x := 10) hn (by decide) (by decide)) (x := 0) hn (by decide) (by decide)) (x := 0) hn (by decide) (by decide)
theorem In_newG2 {m : Rw} (h : In m) (hn : nG m < 6) {b t : Nat} (hb : b ≤ 99) (ht : t ≤ 11) : In (newG2 m (nI b) (nI t)) := by
  unfold newG2
  exact In_pG (In_pG (In_pG (In_pG (In_pG (In_moreG h hn) hn (by decide) (by exact hb)) hn (by decide) (by exact ht)) (x := 0) hn (by decide) (by decide)) (x := 0) hn (by decide) (by decide)) (x := 0) hn (by decide) (by decide)
theorem In_meal {m : Rw} (h : In m) {i g d : Nat} (hi : i < 6) (hg : g < 6) (hd : d < 8) : In (upd m (4 + i) (10 * nI g + nI d)) := by
  rw [show (10 : Int32) = nI 10 from rfl, pk_mul, nI_add]
  refine In_upd h (by omega) (by omega) (by omega) ?_
  unfold okc
  rw [if_neg (by omega), if_neg (by omega), if_neg (by omega), if_pos (by omega)]
  omega
theorem In_b {m : Rw} (h : In m) {d : Nat} (hd : d < 8) (b : Bool) : In (pD m d 5 (bI b)) := by
  cases b
  · exact In_pD (x := 0) h hd (by decide) (by decide)
  · exact In_pD (x := 1) h hd (by decide) (by decide)
section RDOK
variable {fl : Bool} {c : Nat → Nat} {n : Nat} {m : Rw}
theorem rdD_ok (hI : In m) {k : Nat} (hk : k ≤ 6) {q : Tk} (hq : TkOk c n q) : In (rdD (nx fl c n) c m (nI k) q).2.1 ∧ TkOk c n (rdD (nx fl c n) c m (nI k) q).2.2 := by
  unfold rdD
  split
  case isFalse => exact ⟨hI, hq⟩
  case isTrue h8 =>
  have h1 := ok_N (fl := fl) hq
  generalize nx fl c n q.b = q1 at h1 ⊢
  unfold rdD1
  split
  case isFalse => exact ⟨hI, h1⟩
  case isTrue o1 =>
  have v1 := okN_le o1
  have h2 := ok_tkN (fl := fl) (T := 11) h1
  generalize tkN (nx fl c n) 11 q1 = q2 at h2 ⊢
  unfold rdD2
  split
  case isFalse => exact ⟨hI, h2⟩
  case isTrue o2 =>
  have v2 := okN_le o2
  have h3 := ok_tkN (fl := fl) (T := 11) h2
  generalize tkN (nx fl c n) 11 q2 = q3 at h3 ⊢
  have K5 : ∀ (p s : Nat) (z : Tk), p ≤ 99 → s ≤ 9999 → TkOk c n z → In (rdD5 (nx fl c n) c m (nI k) (nI q1.v) (nI q2.v) (nI p) (nI s) z).2.1 ∧ TkOk c n (rdD5 (nx fl c n) c m (nI k) (nI q1.v) (nI q2.v) (nI p) (nI s) z).2.2 := fun p s z hp hs hz =>
    ⟨In_b (In_pD (In_pD (In_newD hI h8 hk v1 v2) h8 (by decide) (by exact hp)) h8 (by decide) (by exact hs)) h8 _, ok_tkW hz⟩
  have K4 : ∀ (p : Nat) (z : Tk), p ≤ 99 → TkOk c n z → In (rdD4 (nx fl c n) c m (nI k) (nI q1.v) (nI q2.v) (nI p) z).2.1 ∧ TkOk c n (rdD4 (nx fl c n) c m (nI k) (nI q1.v) (nI q2.v) (nI p) z).2.2 := by
    intro p z hp hz
    unfold rdD4
    split
    · split
      · rename_i o
        exact K5 p _ _ hp (okN_le o) (ok_tkN (ok_N hz))
      · exact ⟨hI, ok_N hz⟩
    · exact K5 p 0 _ hp (by omega) hz
  unfold rdD3
  split
  · split
    · rename_i o
      exact K4 _ _ (okN_le o) (ok_tkN (ok_N h3))
    · exact ⟨hI, ok_N h3⟩
  · exact K4 10 _ (by omega) h3
theorem rdG_ok (hI : In m) {q : Tk} (hq : TkOk c n q) : In (rdG (nx fl c n) c m q).2.1 ∧ TkOk c n (rdG (nx fl c n) c m q).2.2 := by
  unfold rdG
  split
  case isFalse => exact ⟨hI, hq⟩
  case isTrue h8 =>
  have h1 := ok_N (fl := fl) hq
  generalize nx fl c n q.b = q1 at h1 ⊢
  unfold rdG1
  split
  case isFalse => exact ⟨hI, h1⟩
  case isTrue o1 =>
  have v1 := okN_le o1
  have h2 := ok_tkN (fl := fl) (T := 99) h1
  generalize tkN (nx fl c n) 99 q1 = q2 at h2 ⊢
  unfold rdG2
  split
  · split
    · rename_i o
      exact ⟨In_newG2 hI h8 v1 (okN_le o), ok_tkN (ok_N h2)⟩
    · exact ⟨hI, ok_N h2⟩
  · exact ⟨In_newG2 (t := 0) hI h8 v1 (by omega), h2⟩
theorem rdM_ok (hI : In m) {q : Tk} (hq : TkOk c n q) : In (rdE (nx fl c n) m q).2.1 ∧ TkOk c n (rdE (nx fl c n) m q).2.2 := by
  unfold rdE
  have h1 := ok_N (fl := fl) hq
  generalize nx fl c n q.b = q1 at h1 ⊢
  unfold rdM1
  split
  case isFalse => exact ⟨hI, h1⟩
  case isTrue o1 =>
  have v1 := okN_le o1
  have h2 := ok_tkN (fl := fl) (T := 5) h1
  generalize tkN (nx fl c n) 5 q1 = q2 at h2 ⊢
  unfold rdM2
  split
  case isFalse => exact ⟨hI, h2⟩
  case isTrue o2 =>
  have v2 := okN_le o2
  have h3 := ok_tkN (fl := fl) (T := 5) h2
  generalize tkN (nx fl c n) 5 q2 = q3 at h3 ⊢
  unfold rdM3
  split
  · rename_i o
    have v3 := okN_le o
    exact ⟨In_meal hI (by omega) (by omega) (by omega), ok_tkN h3⟩
  · exact ⟨hI, h3⟩
theorem rdK_ok (hI : In m) {q : Tk} (hq : TkOk c n q) : ∀ f k, f + k = 7 → In (rdK (nx fl c n) c m q f k).2.1 ∧ TkOk c n (rdK (nx fl c n) c m q f k).2.2
  | 0, k, _ => ⟨hI, hq⟩
  | f + 1, k, e => by
    unfold rdK
    split
    · exact rdD_ok hI (by omega) hq
    · exact rdK_ok hI hq f (k + 1) (by omega)
theorem rdI_ok (hI : In m) {q : Tk} (hq : TkOk c n q) : In (rdI (nx fl c n) c m q).2.1 ∧ TkOk c n (rdI (nx fl c n) c m q).2.2 := by
  unfold rdI
  split
  · exact rdG_ok hI hq
  · split
    · exact rdM_ok hI hq
    · exact rdK_ok hI hq 7 0 rfl
end RDOK

