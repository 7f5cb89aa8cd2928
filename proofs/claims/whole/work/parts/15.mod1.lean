/-! THE REFERENCE (class ForkInnModel) -/
def inB (v lo hi : Int32) : Bool := !decide (v < lo) && !decide (hi < v)
def inc (f : Rw) (k : Nat) : Rw := upd f k (f k + 1)
theorem sub1_lt {D : Nat} (hD : D < 2 ^ 31) (x : Int32) : nI D - 1 < x ↔ nI D ≤ x := by
  rw [Int32.lt_iff_toInt_lt, Int32.le_iff_toInt_le]
  have e : (nI D - 1).toInt = (D : Int) - 1 := by
    have h1 : nI D - 1 = Int32.ofInt ((D : Int) - 1) := by
      rw [show (nI D : Int32) = Int32.ofInt (D : Int) from by unfold nI; rw [Int32.ofInt_eq_ofNat], Int32.ofInt_sub]; rfl
    rw [h1, Int32.toInt_ofInt_of_le (by omega) (by omega)]
  rw [e, nI_toInt hD]
  omega
theorem inB_isD {m : Rw} (h : In m) (x : Int32) : inB x 0 (m 2 - 1) = isD m x := by
  unfold inB isD
  have h1 := h.nD
  rw [h1.2]
  congr 2
  exact decide_eq_decide.mpr (sub1_lt (by omega) x)
theorem inB_isG {m : Rw} (h : In m) (x : Int32) : inB x 0 (m 3 - 1) = isG m x := by
  unfold inB isG
  have h1 := h.nG
  rw [h1.2]
  congr 2
  exact decide_eq_decide.mpr (sub1_lt (by omega) x)
set_option maxRecDepth 100000 in
set_option maxHeartbeats 4000000 in
theorem c_X4_finds {X : Sc} {h : Hp} {x : Int32} (k : Nat) (hk : k < 7) (hx : -1000001 - x = nI k) : Ct X yX4_finds cX4_finds 2 (some .int) 0 [.ref 28, .int x] h (some (.int x)) (setg h 15 (inc (h 15) k)) := by
  refine ⟨rfl, ?_⟩
  refine g_aload_n dX4_finds_0 rfl ?_
  refine g_getR dX4_finds_1 fl_X4_19 rfl rfl ?_
  refine g_ldc dX4_finds_4 lc_X4_34 ?_
  refine g_iload_n dX4_finds_6 rfl ?_
  refine g_isub dX4_finds_7 ?_
  refine g_dup2 dX4_finds_8 rfl rfl ?_
  refine g_iald0 k dX4_finds_9 rfl hx hk ?_
  refine g_iconst dX4_finds_10 ic_1 ?_
  refine g_iadd dX4_finds_11 ?_
  refine g_iast0 k dX4_finds_12 rfl hx hk ?_
  refine g_iload_n dX4_finds_13 rfl ?_
  exact g_ireturn dX4_finds_14 rfl (up_setg _ _ _ _)

set_option maxRecDepth 100000 in
set_option maxHeartbeats 4000000 in
theorem c_X4_in {X : Sc} {h : Hp} {v lo hi : Int32} : Ct X yX4_in cX4_in 3 (some .boolean) 0 [.int v, .int lo, .int hi] h (some (.int (bI (inB v lo hi)))) h := by
  refine ⟨rok_b _, ?_⟩
  refine g_iload_n dX4_in_0 rfl ?_
  refine g_iload_n dX4_in_1 rfl ?_
  refine g_icmp_lt 14 dX4_in_2 (by decide) (fun c2 => ?_) (fun c2 => ?_)
  · refine g_iconst dX4_in_14 ic_0 ?_
    exact g_ireturn dX4_in_15 (by simp [inB, bI, *]) rfl
  · refine g_iload_n dX4_in_5 rfl ?_
    refine g_iload_n dX4_in_6 rfl ?_
    refine g_icmp_gt 14 dX4_in_7 (by decide) (fun c7 => ?_) (fun c7 => ?_)
    · refine g_iconst dX4_in_14 ic_0 ?_
      exact g_ireturn dX4_in_15 (by simp [inB, bI, *]) rfl
    · refine g_iconst dX4_in_10 ic_1 ?_
      refine g_goto 15 dX4_in_11 (by decide) ?_
      exact g_ireturn dX4_in_15 (by simp [inB, bI, *]) rfl

set_option maxRecDepth 100000 in
set_option maxHeartbeats 4000000 in
theorem c_X4_held {X : Sc} {h : Hp} {v lo hi : Int32} : Ct X yX4_held cX4_held 3 (some .int) 0 [.int v, .int lo, .int hi] h (some (.int (hld v lo hi))) h := by
  refine ⟨rfl, ?_⟩
  refine g_iload_n dX4_held_0 rfl ?_
  refine g_iload_n dX4_held_1 rfl ?_
  refine g_icmp_ge 9 dX4_held_2 (by decide) (fun c2 => ?_) (fun c2 => ?_)
  · refine g_iload_n dX4_held_9 rfl ?_
    refine g_iload_n dX4_held_10 rfl ?_
    refine g_icmp_le 18 dX4_held_11 (by decide) (fun c11 => ?_) (fun c11 => ?_)
    · refine g_iload_n dX4_held_18 rfl ?_
      exact g_ireturn dX4_held_19 (by first | (rw [hld, if_pos (Int32.not_le.mp c2)]) | (rw [hld, if_neg (Int32.not_lt.mpr c2), if_pos (Int32.not_le.mp c11)]) | (rw [hld, if_neg (Int32.not_lt.mpr c2), if_neg (Int32.not_lt.mpr c11)])) rfl
    · refine g_iload_n dX4_held_14 rfl ?_
      refine g_goto 19 dX4_held_15 (by decide) ?_
      exact g_ireturn dX4_held_19 (by first | (rw [hld, if_pos (Int32.not_le.mp c2)]) | (rw [hld, if_neg (Int32.not_lt.mpr c2), if_pos (Int32.not_le.mp c11)]) | (rw [hld, if_neg (Int32.not_lt.mpr c2), if_neg (Int32.not_lt.mpr c11)])) rfl
  · refine g_iload_n dX4_held_5 rfl ?_
    refine g_goto 19 dX4_held_6 (by decide) ?_
    exact g_ireturn dX4_held_19 (by first | (rw [hld, if_pos (Int32.not_le.mp c2)]) | (rw [hld, if_neg (Int32.not_lt.mpr c2), if_pos (Int32.not_le.mp c11)]) | (rw [hld, if_neg (Int32.not_lt.mpr c2), if_neg (Int32.not_lt.mpr c11)])) rfl

theorem cpy_step (h : Hp) {g0 g1 : Nat} (hn : g0 ≠ g1) (k : Nat) : up (cpy h g0 0 g1 0 k) g1 k (h g0 k) = cpy h g0 0 g1 0 (k + 1) := by
  funext a j
  by_cases e : a = g1 ∧ j = k
  · obtain ⟨rfl, rfl⟩ := e
    rw [up_s, cpy_in _ (by omega) (by omega), show 0 + (j - 0) = j by omega]
  · rw [up_n _ _ e]
    unfold cpy
    by_cases c : a = g1 ∧ 0 ≤ j ∧ j < 0 + k
    · rw [if_pos c, if_pos ⟨c.1, c.2.1, by omega⟩]
    · rw [if_neg c, if_neg]
      rintro ⟨q1, q2, q3⟩
      exact c ⟨q1, q2, by have : j ≠ k := fun q => e ⟨q1, q⟩; omega⟩
theorem cpy_0 (h : Hp) (g0 g1 : Nat) : cpy h g0 0 g1 0 0 = h := by
  funext a j
  unfold cpy
  rw [if_neg (by omega)]
theorem cpy_98 (h : Hp) {g0 g1 : Nat} (hg : rowB g1 = true) : heq (cpy h g0 0 g1 0 98) (setg h g1 (h g0)) := by
  refine heq_row hg (fun a ha => ?_) (fun k hk => ?_)
  · rw [setg_n _ _ ha]; funext k; rw [cpy_no _ (fun q => ha q.1)]
  · rw [setg_s, cpy_in _ (by omega) (by omega), show 0 + (k - 0) = k by omega]
set_option maxRecDepth 100000 in
set_option maxHeartbeats 4000000 in
theorem l_X4_copyAll {X : Sc} {h : Hp} {i0 i1 g0 g1 : Nat} (s0 : shp[i0]? = some (.inr (0, 98, g0, 0))) (s1 : shp[i1]? = some (.inr (0, 98, g1, 0))) (hn : g0 ≠ g1) : ∀ k, k ≤ 98 → Go X RX4 cX4_copyAll 3 0 2 [.ref i0, .ref i1, .int (nI k)] [] (cpy h g0 0 g1 0 k) none (cpy h g0 0 g1 0 98) := by
  refine loop_up (98) ?_ ?_
  · refine g_iload_n dX4_copyAll_2 rfl ?_
    refine g_bipush dX4_copyAll_3 bp_98 ?_
    refine g_icmp_ge 20 dX4_copyAll_5 (by decide) (fun c5 => ?_) (fun c5 => ?_)
    · exact g_return dX4_copyAll_20 rfl rfl
    · exact (lp_yes ((rfl : (98 : Int32) = nI 98)) (by decide) c5).elim
  · intro k hk ih
    refine g_iload_n dX4_copyAll_2 rfl ?_
    refine g_bipush dX4_copyAll_3 bp_98 ?_
    refine g_icmp_ge 20 dX4_copyAll_5 (by decide) (fun c5 => ?_) (fun c5 => ?_)
    · exact (lp_no ((rfl : (98 : Int32) = nI 98)) (by decide) hk c5).elim
    · refine g_aload_n dX4_copyAll_8 rfl ?_
      refine g_iload_n dX4_copyAll_9 rfl ?_
      refine g_aload_n dX4_copyAll_10 rfl ?_
      refine g_iload_n dX4_copyAll_11 rfl ?_
      refine g_iald0 k dX4_copyAll_12 s0 rfl hk ?_
      refine g_iast0 k dX4_copyAll_13 s1 rfl hk ?_
      refine g_iinc dX4_copyAll_14 rfl (ii_n _) (by decide) rfl ?_
      refine g_goto 2 dX4_copyAll_17 (by decide) ?_
      exact g_h (by rw [cpy_no _ (fun q => hn q.1)]; exact cpy_step h hn k) ih

set_option maxRecDepth 100000 in
set_option maxHeartbeats 4000000 in
theorem c0_X4_copyAll {X : Sc} {h : Hp} {i0 i1 g0 g1 : Nat} (s0 : shp[i0]? = some (.inr (0, 98, g0, 0))) (s1 : shp[i1]? = some (.inr (0, 98, g1, 0))) (hn : g0 ≠ g1) : Ct X yX4_copyAll cX4_copyAll 3 none 0 [.ref i0, .ref i1] h none (cpy h g0 0 g1 0 98) := by
  refine ⟨trivial, ?_⟩
  refine g_iconst dX4_copyAll_0 ic_0 ?_
  refine g_istore_n dX4_copyAll_1 (by decide) rfl ?_
  exact g_h (cpy_0 h g0 g1).symm (l_X4_copyAll s0 s1 hn 0 (by decide))

theorem c_X4_copyAll {X : Sc} {h : Hp} {i0 i1 g0 g1 : Nat} (s0 : shp[i0]? = some (.inr (0, 98, g0, 0))) (s1 : shp[i1]? = some (.inr (0, 98, g1, 0))) (hn : g0 ≠ g1) (hg : rowB g1 = true) : Ct X yX4_copyAll cX4_copyAll 3 none 0 [.ref i0, .ref i1] h none (setg h g1 (h g0)) := (c0_X4_copyAll s0 s1 hn).heq (cpy_98 h hg)
set_option maxRecDepth 100000 in
set_option maxHeartbeats 4000000 in
theorem c_X4_becomes {X : Sc} {h : Hp} {q : Nat} (hq : q < 98) {v : Int32} : Ct X yX4_becomes cX4_becomes 4 (some .int) 0 [.ref 28, .int (nI q), .int v] h (some (.int (h 11 q))) (setg h 11 (upd (h 11) q v)) := by
  refine ⟨rfl, ?_⟩
  refine g_aload_n dX4_becomes_0 rfl ?_
  refine g_getR dX4_becomes_1 fl_X4_9 rfl rfl ?_
  refine g_iload_n dX4_becomes_4 rfl ?_
  refine g_iald0 q dX4_becomes_5 rfl rfl hq ?_
  refine g_istore_n dX4_becomes_6 (by decide) rfl ?_
  refine g_aload_n dX4_becomes_7 rfl ?_
  refine g_getR dX4_becomes_8 fl_X4_9 rfl rfl ?_
  refine g_iload_n dX4_becomes_11 rfl ?_
  refine g_iload_n dX4_becomes_12 rfl ?_
  refine g_iast0 q dX4_becomes_13 rfl rfl hq ?_
  refine g_iload_n dX4_becomes_14 rfl ?_
  exact g_ireturn dX4_becomes_15 rfl (up_setg _ _ _ _)

set_option maxRecDepth 100000 in
set_option maxHeartbeats 4000000 in
theorem c_X4_isDish {X : Sc} {h : Hp} (hI : In (h 11)) {x : Int32} : Ct X yX4_isDish cX4_isDish 2 (some .boolean) 1 [.ref 28, .int x] h (some (.int (bI (isD (h 11) x)))) h := by
  refine ⟨rok_b _, ?_⟩
  refine g_iload_n dX4_isDish_0 rfl ?_
  refine g_iconst dX4_isDish_1 ic_0 ?_
  refine g_aload_n dX4_isDish_2 rfl ?_
  refine g_getR dX4_isDish_3 fl_X4_9 rfl rfl ?_
  refine g_iconst dX4_isDish_6 ic_2 ?_
  refine g_iald0 2 dX4_isDish_7 rfl rfl (by decide) ?_
  refine g_iconst dX4_isDish_8 ic_1 ?_
  refine g_isub dX4_isDish_9 ?_
  refine g_callS3i (c_X4_in) mi_X4_in ms_X4_in ml_X4_40 dX4_isDish_10 (by decide) (Nat.le_of_ble_eq_true rfl) (Nat.le_of_ble_eq_true rfl) ?_
  exact g_ireturn dX4_isDish_13 (by rw [inB_isD hI]) rfl

set_option maxRecDepth 100000 in
set_option maxHeartbeats 4000000 in
theorem c_X4_isGuest {X : Sc} {h : Hp} (hI : In (h 11)) {x : Int32} : Ct X yX4_isGuest cX4_isGuest 2 (some .boolean) 1 [.ref 28, .int x] h (some (.int (bI (isG (h 11) x)))) h := by
  refine ⟨rok_b _, ?_⟩
  refine g_iload_n dX4_isGuest_0 rfl ?_
  refine g_iconst dX4_isGuest_1 ic_0 ?_
  refine g_aload_n dX4_isGuest_2 rfl ?_
  refine g_getR dX4_isGuest_3 fl_X4_9 rfl rfl ?_
  refine g_iconst dX4_isGuest_6 ic_3 ?_
  refine g_iald0 3 dX4_isGuest_7 rfl rfl (by decide) ?_
  refine g_iconst dX4_isGuest_8 ic_1 ?_
  refine g_isub dX4_isGuest_9 ?_
  refine g_callS3i (c_X4_in) mi_X4_in ms_X4_in ml_X4_40 dX4_isGuest_10 (by decide) (Nat.le_of_ble_eq_true rfl) (Nat.le_of_ble_eq_true rfl) ?_
  exact g_ireturn dX4_isGuest_13 (by rw [inB_isG hI]) rfl

set_option maxRecDepth 100000 in
set_option maxHeartbeats 4000000 in
theorem c_X4_isTown {X : Sc} {h : Hp} {x : Int32} : Ct X yX4_isTown cX4_isTown 1 (some .boolean) 1 [.int x] h (some (.int (bI (inB x 0 11)))) h := by
  refine ⟨rok_b _, ?_⟩
  refine g_iload_n dX4_isTown_0 rfl ?_
  refine g_iconst dX4_isTown_1 ic_0 ?_
  refine g_bipush dX4_isTown_2 bp_11 ?_
  refine g_callS3i (c_X4_in) mi_X4_in ms_X4_in ml_X4_40 dX4_isTown_4 (by decide) (Nat.le_of_ble_eq_true rfl) (Nat.le_of_ble_eq_true rfl) ?_
  exact g_ireturn dX4_isTown_7 rfl rfl

set_option maxRecDepth 100000 in
set_option maxHeartbeats 4000000 in
theorem c_X4_isPlace {X : Sc} {h : Hp} {x : Int32} : Ct X yX4_isPlace cX4_isPlace 1 (some .boolean) 1 [.int x] h (some (.int (bI (inB x 0 5)))) h := by
  refine ⟨rok_b _, ?_⟩
  refine g_iload_n dX4_isPlace_0 rfl ?_
  refine g_iconst dX4_isPlace_1 ic_0 ?_
  refine g_iconst dX4_isPlace_2 ic_5 ?_
  refine g_callS3i (c_X4_in) mi_X4_in ms_X4_in ml_X4_40 dX4_isPlace_3 (by decide) (Nat.le_of_ble_eq_true rfl) (Nat.le_of_ble_eq_true rfl) ?_
  exact g_ireturn dX4_isPlace_6 rfl rfl

set_option maxRecDepth 100000 in
set_option maxHeartbeats 4000000 in
theorem c_X4_isSheet {X : Sc} {h : Hp} {x : Int32} : Ct X yX4_isSheet cX4_isSheet 1 (some .boolean) 1 [.int x] h (some (.int (bI (inB x 0 3)))) h := by
  refine ⟨rok_b _, ?_⟩
  refine g_iload_n dX4_isSheet_0 rfl ?_
  refine g_iconst dX4_isSheet_1 ic_0 ?_
  refine g_iconst dX4_isSheet_2 ic_3 ?_
  refine g_callS3i (c_X4_in) mi_X4_in ms_X4_in ml_X4_40 dX4_isSheet_3 (by decide) (Nat.le_of_ble_eq_true rfl) (Nat.le_of_ble_eq_true rfl) ?_
  exact g_ireturn dX4_isSheet_6 rfl rfl

set_option maxRecDepth 100000 in
set_option maxHeartbeats 4000000 in
theorem c_X4_it {X : Sc} {h : Hp} {d w : Nat} (hd : d < 8) (hw : w < 6) : Ct X yX4_it cX4_it 3 (some .int) 0 [.ref 28, .int (nI d), .int (nI w)] h (some (.int (dF (h 11) d w))) h := by
  refine ⟨rfl, ?_⟩
  refine g_aload_n dX4_it_0 rfl ?_
  refine g_getR dX4_it_1 fl_X4_9 rfl rfl ?_
  refine g_bipush dX4_it_4 bp_10 ?_
  refine g_bipush dX4_it_6 bp_6 ?_
  refine g_iload_n dX4_it_8 rfl ?_
  refine g_imul dX4_it_9 ?_
  refine g_iadd dX4_it_10 ?_
  refine g_iload_n dX4_it_11 rfl ?_
  refine g_iadd dX4_it_12 ?_
  refine g_iald0 (10 + (d * 6 + w)) dX4_it_13 rfl (jx6 _ _) (by omega) ?_
  exact g_ireturn dX4_it_14 rfl rfl

set_option maxRecDepth 100000 in
set_option maxHeartbeats 4000000 in
theorem c_X4_his {X : Sc} {h : Hp} {e w : Nat} (he : e < 6) (hw : w < 5) : Ct X yX4_his cX4_his 3 (some .int) 0 [.ref 28, .int (nI e), .int (nI w)] h (some (.int (gF (h 11) e w))) h := by
  refine ⟨rfl, ?_⟩
  refine g_aload_n dX4_his_0 rfl ?_
  refine g_getR dX4_his_1 fl_X4_9 rfl rfl ?_
  refine g_bipush dX4_his_4 bp_58 ?_
  refine g_iconst dX4_his_6 ic_5 ?_
  refine g_iload_n dX4_his_7 rfl ?_
  refine g_imul dX4_his_8 ?_
  refine g_iadd dX4_his_9 ?_
  refine g_iload_n dX4_his_10 rfl ?_
  refine g_iadd dX4_his_11 ?_
  refine g_iald0 (58 + (e * 5 + w)) dX4_his_12 rfl (jx5 _ _) (by omega) ?_
  exact g_ireturn dX4_his_13 rfl rfl

set_option maxRecDepth 100000 in
set_option maxHeartbeats 4000000 in
theorem c_X4_put {X : Sc} {h : Hp} {d w : Nat} (hd : d < 8) (hw : w < 6) {v : Int32} : Ct X yX4_put cX4_put 4 none 0 [.ref 28, .int (nI d), .int (nI w), .int v] h none (setg h 11 (pD (h 11) d w v)) := by
  refine ⟨trivial, ?_⟩
  refine g_aload_n dX4_put_0 rfl ?_
  refine g_getR dX4_put_1 fl_X4_9 rfl rfl ?_
  refine g_bipush dX4_put_4 bp_10 ?_
  refine g_bipush dX4_put_6 bp_6 ?_
  refine g_iload_n dX4_put_8 rfl ?_
  refine g_imul dX4_put_9 ?_
  refine g_iadd dX4_put_10 ?_
  refine g_iload_n dX4_put_11 rfl ?_
  refine g_iadd dX4_put_12 ?_
  refine g_iload_n dX4_put_13 rfl ?_
  refine g_iast0 (10 + (d * 6 + w)) dX4_put_14 rfl (jx6 _ _) (by omega) ?_
  exact g_return dX4_put_15 rfl (up_setg _ _ _ _)

set_option maxRecDepth 100000 in
set_option maxHeartbeats 4000000 in
theorem c_X4_lets {X : Sc} {h : Hp} {e w : Nat} (he : e < 6) (hw : w < 5) {v : Int32} : Ct X yX4_lets cX4_lets 4 none 0 [.ref 28, .int (nI e), .int (nI w), .int v] h none (setg h 11 (pG (h 11) e w v)) := by
  refine ⟨trivial, ?_⟩
  refine g_aload_n dX4_lets_0 rfl ?_
  refine g_getR dX4_lets_1 fl_X4_9 rfl rfl ?_
  refine g_bipush dX4_lets_4 bp_58 ?_
  refine g_iconst dX4_lets_6 ic_5 ?_
  refine g_iload_n dX4_lets_7 rfl ?_
  refine g_imul dX4_lets_8 ?_
  refine g_iadd dX4_lets_9 ?_
  refine g_iload_n dX4_lets_10 rfl ?_
  refine g_iadd dX4_lets_11 ?_
  refine g_iload_n dX4_lets_12 rfl ?_
  refine g_iast0 (58 + (e * 5 + w)) dX4_lets_13 rfl (jx5 _ _) (by omega) ?_
  exact g_return dX4_lets_14 rfl (up_setg _ _ _ _)

set_option maxRecDepth 100000 in
set_option maxHeartbeats 4000000 in
theorem l_X4_isAnotherFor {X : Sc} {h : Hp} (hI : In (h 11)) {e : Nat} (he : e < 6) {t : Int32} : ∀ k, k ≤ nG (h 11) → Go X RX4 cX4_isAnotherFor 5 1 5 [.ref 28, .int (nI e), .int t, .int (bI (othG (h 11) e t k)), .int (nI k)] [] h (some (.int (bI (othG (h 11) e t (nG (h 11)))))) h := by
  have hN := hI.nG.1
  refine loop_up (nG (h 11)) ?_ ?_
  · refine g_iload dX4_isAnotherFor_5 rfl ?_
    refine g_aload_n dX4_isAnotherFor_7 rfl ?_
    refine g_getR dX4_isAnotherFor_8 fl_X4_9 rfl rfl ?_
    refine g_iconst dX4_isAnotherFor_11 ic_3 ?_
    refine g_iald0 3 dX4_isAnotherFor_12 rfl rfl (by decide) ?_
    refine g_icmp_ge 49 dX4_isAnotherFor_13 (by decide) (fun c13 => ?_) (fun c13 => ?_)
    · refine g_iload_n dX4_isAnotherFor_49 rfl ?_
      exact g_ireturn dX4_isAnotherFor_50 rfl rfl
    · exact (lp_yes (hI.nG.2) (by omega) c13).elim
  · intro k hk ih
    refine g_iload dX4_isAnotherFor_5 rfl ?_
    refine g_aload_n dX4_isAnotherFor_7 rfl ?_
    refine g_getR dX4_isAnotherFor_8 fl_X4_9 rfl rfl ?_
    refine g_iconst dX4_isAnotherFor_11 ic_3 ?_
    refine g_iald0 3 dX4_isAnotherFor_12 rfl rfl (by decide) ?_
    refine g_icmp_ge 49 dX4_isAnotherFor_13 (by decide) (fun c13 => ?_) (fun c13 => ?_)
    · exact (lp_no (hI.nG.2) (by omega) hk c13).elim
    · refine g_iload_n dX4_isAnotherFor_16 rfl ?_
      refine g_if_ne 37 dX4_isAnotherFor_17 (by decide) (fun c17 => ?_) (fun c17 => ?_)
      · refine g_iconst dX4_isAnotherFor_37 ic_1 ?_
        refine g_goto 42 dX4_isAnotherFor_38 (by decide) ?_
        refine g_istore_n dX4_isAnotherFor_42 (by decide) rfl ?_
        refine g_iinc dX4_isAnotherFor_43 rfl (ii_n _) (by decide) rfl ?_
        refine g_goto 5 dX4_isAnotherFor_46 (by decide) ?_
        exact g_lv (by simp_all [othG, bI_0, bI, nI_eq (a := k) (b := e) (by omega) (by omega)] <;> rfl) ih
      · refine g_iload dX4_isAnotherFor_20 rfl ?_
        refine g_iload_n dX4_isAnotherFor_22 rfl ?_
        refine g_icmp_eq 41 dX4_isAnotherFor_23 (by decide) (fun c23 => ?_) (fun c23 => ?_)
        · refine g_iconst dX4_isAnotherFor_41 ic_0 ?_
          refine g_istore_n dX4_isAnotherFor_42 (by decide) rfl ?_
          refine g_iinc dX4_isAnotherFor_43 rfl (ii_n _) (by decide) rfl ?_
          refine g_goto 5 dX4_isAnotherFor_46 (by decide) ?_
          exact g_lv (by simp_all [othG, bI_0, bI, nI_eq (a := k) (b := e) (by omega) (by omega)] <;> rfl) ih
        · refine g_aload_n dX4_isAnotherFor_26 rfl ?_
          refine g_iload dX4_isAnotherFor_27 rfl ?_
          refine g_iconst dX4_isAnotherFor_29 ic_1 ?_
          refine g_callV2i (c_X4_his (e := k) (w := 1) (by omega) (by decide)) mi_X4_his mv_X4_his ml_X4_44 dX4_isAnotherFor_30 rfl rfl (by decide) (Nat.le_of_ble_eq_true rfl) (Nat.le_of_ble_eq_true rfl) ?_
          refine g_iload_n dX4_isAnotherFor_33 rfl ?_
          refine g_icmp_ne 41 dX4_isAnotherFor_34 (by decide) (fun c34 => ?_) (fun c34 => ?_)
          · refine g_iconst dX4_isAnotherFor_41 ic_0 ?_
            refine g_istore_n dX4_isAnotherFor_42 (by decide) rfl ?_
            refine g_iinc dX4_isAnotherFor_43 rfl (ii_n _) (by decide) rfl ?_
            refine g_goto 5 dX4_isAnotherFor_46 (by decide) ?_
            exact g_lv (by simp_all [othG, bI_0, bI, nI_eq (a := k) (b := e) (by omega) (by omega)] <;> rfl) ih
          · refine g_iconst dX4_isAnotherFor_37 ic_1 ?_
            refine g_goto 42 dX4_isAnotherFor_38 (by decide) ?_
            refine g_istore_n dX4_isAnotherFor_42 (by decide) rfl ?_
            refine g_iinc dX4_isAnotherFor_43 rfl (ii_n _) (by decide) rfl ?_
            refine g_goto 5 dX4_isAnotherFor_46 (by decide) ?_
            exact g_lv (by simp_all [othG, bI_0, bI, nI_eq (a := k) (b := e) (by omega) (by omega)] <;> rfl) ih

set_option maxRecDepth 100000 in
set_option maxHeartbeats 4000000 in
theorem c_X4_isAnotherFor {X : Sc} {h : Hp} (hI : In (h 11)) {e : Nat} (he : e < 6) {t : Int32} : Ct X yX4_isAnotherFor cX4_isAnotherFor 5 (some .boolean) 1 [.ref 28, .int (nI e), .int t] h (some (.int (bI (othG (h 11) e t (nG (h 11)))))) h := by
  refine ⟨rok_b _, ?_⟩
  refine g_iconst dX4_isAnotherFor_0 ic_0 ?_
  refine g_istore_n dX4_isAnotherFor_1 (by decide) rfl ?_
  refine g_iconst dX4_isAnotherFor_2 ic_0 ?_
  refine g_istore dX4_isAnotherFor_3 (by decide) rfl ?_
  exact l_X4_isAnotherFor hI he 0 (Nat.zero_le _)

set_option maxRecDepth 100000 in
set_option maxHeartbeats 4000000 in
theorem c_X4_isLeft {X : Sc} {h : Hp} (hI : In (h 11)) {e d : Nat} (he : e < 6) (hd : d < 8) : Ct X yX4_isLeft cX4_isLeft 5 (some .boolean) 2 [.ref 28, .int (nI e), .int (nI d)] h (some (.int (bI (lft (h 11) e d)))) h := by
  refine ⟨rok_b _, ?_⟩
  refine g_aload_n dX4_isLeft_0 rfl ?_
  refine g_iload_n dX4_isLeft_1 rfl ?_
  refine g_iconst dX4_isLeft_2 ic_0 ?_
  refine g_callV2i (c_X4_his (w := 0) he (by decide)) mi_X4_his mv_X4_his ml_X4_44 dX4_isLeft_3 rfl rfl (by decide) (Nat.le_of_ble_eq_true rfl) (Nat.le_of_ble_eq_true rfl) ?_
  refine g_istore_n dX4_isLeft_6 (by decide) rfl ?_
  refine g_iload_n dX4_isLeft_7 rfl ?_
  refine g_iconst dX4_isLeft_8 ic_2 ?_
  refine g_irem dX4_isLeft_9 (by decide) ?_
  refine g_if_ne 17 dX4_isLeft_10 (by decide) (fun c10 => ?_) (fun c10 => ?_)
  · refine g_iconst dX4_isLeft_17 ic_0 ?_
    refine g_istore dX4_isLeft_18 (by decide) rfl ?_
    refine g_aload_n dX4_isLeft_20 rfl ?_
    refine g_iload_n dX4_isLeft_21 rfl ?_
    refine g_iconst dX4_isLeft_22 ic_0 ?_
    refine g_callV2i (c_X4_it (w := 0) hd (by decide)) mi_X4_it mv_X4_it ml_X4_48 dX4_isLeft_23 rfl rfl (by decide) (Nat.le_of_ble_eq_true rfl) (Nat.le_of_ble_eq_true rfl) ?_
    refine g_tswc (1) (1) (38) 64 dX4_isLeft_26 (by decide) (by decide) (by decide) rfl (by decide) (fun c26 => ?_) (fun c26_0 n26_0 => ?_)
    · refine g_iload dX4_isLeft_64 rfl ?_
      exact g_ireturn dX4_isLeft_66 (by simp_all [lft, evn, bI]) rfl
    refine g_tswc (2) (2) (68) 94 dX4_isLeft_26 (by decide) (by decide) (by decide) rfl (by decide) (fun c26 => ?_) (fun c26_1 n26_1 => ?_)
    · refine g_iload_n dX4_isLeft_94 rfl ?_
      refine g_bipush dX4_isLeft_95 bp_30 ?_
      refine g_icmp_ge 104 dX4_isLeft_97 (by decide) (fun c97 => ?_) (fun c97 => ?_)
      · refine g_iconst dX4_isLeft_104 ic_0 ?_
        exact g_ireturn dX4_isLeft_105 (by simp_all [lft, evn, bI]) rfl
      · refine g_iconst dX4_isLeft_100 ic_1 ?_
        refine g_goto 105 dX4_isLeft_101 (by decide) ?_
        exact g_ireturn dX4_isLeft_105 (by simp_all [lft, evn, bI]) rfl
    refine g_tswc (3) (3) (80) 106 dX4_isLeft_26 (by decide) (by decide) (by decide) rfl (by decide) (fun c26 => ?_) (fun c26_2 n26_2 => ?_)
    · refine g_iload_n dX4_isLeft_106 rfl ?_
      refine g_bipush dX4_isLeft_107 bp_30 ?_
      refine g_icmp_lt 126 dX4_isLeft_109 (by decide) (fun c109 => ?_) (fun c109 => ?_)
      · refine g_iconst dX4_isLeft_126 ic_1 ?_
        refine g_goto 131 dX4_isLeft_127 (by decide) ?_
        exact g_ireturn dX4_isLeft_131 (by simp_all [lft, evn, bI]) rfl
      · refine g_aload_n dX4_isLeft_112 rfl ?_
        refine g_iload_n dX4_isLeft_113 rfl ?_
        refine g_aload_n dX4_isLeft_114 rfl ?_
        refine g_iload_n dX4_isLeft_115 rfl ?_
        refine g_iconst dX4_isLeft_116 ic_2 ?_
        refine g_callV2i (c_X4_it (w := 2) hd (by decide)) mi_X4_it mv_X4_it ml_X4_48 dX4_isLeft_117 rfl rfl (by decide) (Nat.le_of_ble_eq_true rfl) (Nat.le_of_ble_eq_true rfl) ?_
        refine g_callV2i (c_X4_isAnotherFor hI he) mi_X4_isAnotherFor mv_X4_isAnotherFor ml_X4_51 dX4_isLeft_120 rfl rfl (by decide) (Nat.le_of_ble_eq_true rfl) (Nat.le_of_ble_eq_true rfl) ?_
        refine g_if_eq 130 dX4_isLeft_123 (by decide) (fun c123 => ?_) (fun c123 => ?_)
        · refine g_iconst dX4_isLeft_130 ic_0 ?_
          exact g_ireturn dX4_isLeft_131 (by simp_all [lft, evn, bI]) rfl
        · refine g_iconst dX4_isLeft_126 ic_1 ?_
          refine g_goto 131 dX4_isLeft_127 (by decide) ?_
          exact g_ireturn dX4_isLeft_131 (by simp_all [lft, evn, bI]) rfl
    refine g_tswc (4) (4) (106) 132 dX4_isLeft_26 (by decide) (by decide) (by decide) rfl (by decide) (fun c26 => ?_) (fun c26_3 n26_3 => ?_)
    · refine g_aload_n dX4_isLeft_132 rfl ?_
      refine g_iload_n dX4_isLeft_133 rfl ?_
      refine g_iconst dX4_isLeft_134 ic_4 ?_
      refine g_callV2i (c_X4_it (w := 4) hd (by decide)) mi_X4_it mv_X4_it ml_X4_48 dX4_isLeft_135 rfl rfl (by decide) (Nat.le_of_ble_eq_true rfl) (Nat.le_of_ble_eq_true rfl) ?_
      refine g_iconst dX4_isLeft_138 ic_2 ?_
      refine g_irem dX4_isLeft_139 (by decide) ?_
      refine g_if_ne 147 dX4_isLeft_140 (by decide) (fun c140 => ?_) (fun c140 => ?_)
      · refine g_iconst dX4_isLeft_147 ic_0 ?_
        exact g_ireturn dX4_isLeft_148 (by simp_all [lft, evn, bI]) rfl
      · refine g_iconst dX4_isLeft_143 ic_1 ?_
        refine g_goto 148 dX4_isLeft_144 (by decide) ?_
        exact g_ireturn dX4_isLeft_148 (by simp_all [lft, evn, bI]) rfl
    refine g_tswc (5) (5) (123) 149 dX4_isLeft_26 (by decide) (by decide) (by decide) rfl (by decide) (fun c26 => ?_) (fun c26_4 n26_4 => ?_)
    · refine g_iconst dX4_isLeft_149 ic_1 ?_
      exact g_ireturn dX4_isLeft_150 (by simp_all [lft, evn, bI]) rfl
    refine g_tswc (6) (6) (41) 67 dX4_isLeft_26 (by decide) (by decide) (by decide) rfl (by decide) (fun c26 => ?_) (fun c26_5 n26_5 => ?_)
    · refine g_aload_n dX4_isLeft_67 rfl ?_
      refine g_iload_n dX4_isLeft_68 rfl ?_
      refine g_iconst dX4_isLeft_69 ic_4 ?_
      refine g_callV2i (c_X4_it (w := 4) hd (by decide)) mi_X4_it mv_X4_it ml_X4_48 dX4_isLeft_70 rfl rfl (by decide) (Nat.le_of_ble_eq_true rfl) (Nat.le_of_ble_eq_true rfl) ?_
      refine g_iconst dX4_isLeft_73 ic_2 ?_
      refine g_irem dX4_isLeft_74 (by decide) ?_
      refine g_if_ne 83 dX4_isLeft_75 (by decide) (fun c75 => ?_) (fun c75 => ?_)
      · refine g_iload dX4_isLeft_83 rfl ?_
        refine g_if_ne 92 dX4_isLeft_85 (by decide) (fun c85 => ?_) (fun c85 => ?_)
        · refine g_iconst dX4_isLeft_92 ic_0 ?_
          exact g_ireturn dX4_isLeft_93 (by simp_all [lft, evn, bI]) rfl
        · refine g_iconst dX4_isLeft_88 ic_1 ?_
          refine g_goto 93 dX4_isLeft_89 (by decide) ?_
          exact g_ireturn dX4_isLeft_93 (by simp_all [lft, evn, bI]) rfl
      · refine g_iload dX4_isLeft_78 rfl ?_
        refine g_goto 93 dX4_isLeft_80 (by decide) ?_
        exact g_ireturn dX4_isLeft_93 (by simp_all [lft, evn, bI]) rfl
    refine g_tswd 151 dX4_isLeft_26 (by omega) (by decide) ?_
    refine g_iload_n dX4_isLeft_151 rfl ?_
    refine g_bipush dX4_isLeft_152 bp_50 ?_
    refine g_icmp_ge 161 dX4_isLeft_154 (by decide) (fun c154 => ?_) (fun c154 => ?_)
    · refine g_iconst dX4_isLeft_161 ic_0 ?_
      exact g_ireturn dX4_isLeft_162 (by simp_all [lft, evn, bI]) rfl
    · refine g_iconst dX4_isLeft_157 ic_1 ?_
      refine g_goto 162 dX4_isLeft_158 (by decide) ?_
      exact g_ireturn dX4_isLeft_162 (by simp_all [lft, evn, bI]) rfl
  · refine g_iconst dX4_isLeft_13 ic_1 ?_
    refine g_goto 18 dX4_isLeft_14 (by decide) ?_
    refine g_istore dX4_isLeft_18 (by decide) rfl ?_
    refine g_aload_n dX4_isLeft_20 rfl ?_
    refine g_iload_n dX4_isLeft_21 rfl ?_
    refine g_iconst dX4_isLeft_22 ic_0 ?_
    refine g_callV2i (c_X4_it (w := 0) hd (by decide)) mi_X4_it mv_X4_it ml_X4_48 dX4_isLeft_23 rfl rfl (by decide) (Nat.le_of_ble_eq_true rfl) (Nat.le_of_ble_eq_true rfl) ?_
    refine g_tswc (1) (1) (38) 64 dX4_isLeft_26 (by decide) (by decide) (by decide) rfl (by decide) (fun c26 => ?_) (fun c26_0 n26_0 => ?_)
    · refine g_iload dX4_isLeft_64 rfl ?_
      exact g_ireturn dX4_isLeft_66 (by simp_all [lft, evn, bI]) rfl
    refine g_tswc (2) (2) (68) 94 dX4_isLeft_26 (by decide) (by decide) (by decide) rfl (by decide) (fun c26 => ?_) (fun c26_1 n26_1 => ?_)
    · refine g_iload_n dX4_isLeft_94 rfl ?_
      refine g_bipush dX4_isLeft_95 bp_30 ?_
      refine g_icmp_ge 104 dX4_isLeft_97 (by decide) (fun c97 => ?_) (fun c97 => ?_)
      · refine g_iconst dX4_isLeft_104 ic_0 ?_
        exact g_ireturn dX4_isLeft_105 (by simp_all [lft, evn, bI]) rfl
      · refine g_iconst dX4_isLeft_100 ic_1 ?_
        refine g_goto 105 dX4_isLeft_101 (by decide) ?_
        exact g_ireturn dX4_isLeft_105 (by simp_all [lft, evn, bI]) rfl
    refine g_tswc (3) (3) (80) 106 dX4_isLeft_26 (by decide) (by decide) (by decide) rfl (by decide) (fun c26 => ?_) (fun c26_2 n26_2 => ?_)
    · refine g_iload_n dX4_isLeft_106 rfl ?_
      refine g_bipush dX4_isLeft_107 bp_30 ?_
      refine g_icmp_lt 126 dX4_isLeft_109 (by decide) (fun c109 => ?_) (fun c109 => ?_)
      · refine g_iconst dX4_isLeft_126 ic_1 ?_
        refine g_goto 131 dX4_isLeft_127 (by decide) ?_
        exact g_ireturn dX4_isLeft_131 (by simp_all [lft, evn, bI]) rfl
      · refine g_aload_n dX4_isLeft_112 rfl ?_
        refine g_iload_n dX4_isLeft_113 rfl ?_
        refine g_aload_n dX4_isLeft_114 rfl ?_
        refine g_iload_n dX4_isLeft_115 rfl ?_
        refine g_iconst dX4_isLeft_116 ic_2 ?_
        refine g_callV2i (c_X4_it (w := 2) hd (by decide)) mi_X4_it mv_X4_it ml_X4_48 dX4_isLeft_117 rfl rfl (by decide) (Nat.le_of_ble_eq_true rfl) (Nat.le_of_ble_eq_true rfl) ?_
        refine g_callV2i (c_X4_isAnotherFor hI he) mi_X4_isAnotherFor mv_X4_isAnotherFor ml_X4_51 dX4_isLeft_120 rfl rfl (by decide) (Nat.le_of_ble_eq_true rfl) (Nat.le_of_ble_eq_true rfl) ?_
        refine g_if_eq 130 dX4_isLeft_123 (by decide) (fun c123 => ?_) (fun c123 => ?_)
        · refine g_iconst dX4_isLeft_130 ic_0 ?_
          exact g_ireturn dX4_isLeft_131 (by simp_all [lft, evn, bI]) rfl
        · refine g_iconst dX4_isLeft_126 ic_1 ?_
          refine g_goto 131 dX4_isLeft_127 (by decide) ?_
          exact g_ireturn dX4_isLeft_131 (by simp_all [lft, evn, bI]) rfl
    refine g_tswc (4) (4) (106) 132 dX4_isLeft_26 (by decide) (by decide) (by decide) rfl (by decide) (fun c26 => ?_) (fun c26_3 n26_3 => ?_)
    · refine g_aload_n dX4_isLeft_132 rfl ?_
      refine g_iload_n dX4_isLeft_133 rfl ?_
      refine g_iconst dX4_isLeft_134 ic_4 ?_
      refine g_callV2i (c_X4_it (w := 4) hd (by decide)) mi_X4_it mv_X4_it ml_X4_48 dX4_isLeft_135 rfl rfl (by decide) (Nat.le_of_ble_eq_true rfl) (Nat.le_of_ble_eq_true rfl) ?_
      refine g_iconst dX4_isLeft_138 ic_2 ?_
      refine g_irem dX4_isLeft_139 (by decide) ?_
      refine g_if_ne 147 dX4_isLeft_140 (by decide) (fun c140 => ?_) (fun c140 => ?_)
      · refine g_iconst dX4_isLeft_147 ic_0 ?_
        exact g_ireturn dX4_isLeft_148 (by simp_all [lft, evn, bI]) rfl
      · refine g_iconst dX4_isLeft_143 ic_1 ?_
        refine g_goto 148 dX4_isLeft_144 (by decide) ?_
        exact g_ireturn dX4_isLeft_148 (by simp_all [lft, evn, bI]) rfl
    refine g_tswc (5) (5) (123) 149 dX4_isLeft_26 (by decide) (by decide) (by decide) rfl (by decide) (fun c26 => ?_) (fun c26_4 n26_4 => ?_)
    · refine g_iconst dX4_isLeft_149 ic_1 ?_
      exact g_ireturn dX4_isLeft_150 (by simp_all [lft, evn, bI]) rfl
    refine g_tswc (6) (6) (41) 67 dX4_isLeft_26 (by decide) (by decide) (by decide) rfl (by decide) (fun c26 => ?_) (fun c26_5 n26_5 => ?_)
    · refine g_aload_n dX4_isLeft_67 rfl ?_
      refine g_iload_n dX4_isLeft_68 rfl ?_
      refine g_iconst dX4_isLeft_69 ic_4 ?_
      refine g_callV2i (c_X4_it (w := 4) hd (by decide)) mi_X4_it mv_X4_it ml_X4_48 dX4_isLeft_70 rfl rfl (by decide) (Nat.le_of_ble_eq_true rfl) (Nat.le_of_ble_eq_true rfl) ?_
      refine g_iconst dX4_isLeft_73 ic_2 ?_
      refine g_irem dX4_isLeft_74 (by decide) ?_
      refine g_if_ne 83 dX4_isLeft_75 (by decide) (fun c75 => ?_) (fun c75 => ?_)
      · refine g_iload dX4_isLeft_83 rfl ?_
        refine g_if_ne 92 dX4_isLeft_85 (by decide) (fun c85 => ?_) (fun c85 => ?_)
        · refine g_iconst dX4_isLeft_92 ic_0 ?_
          exact g_ireturn dX4_isLeft_93 (by simp_all [lft, evn, bI]) rfl
        · refine g_iconst dX4_isLeft_88 ic_1 ?_
          refine g_goto 93 dX4_isLeft_89 (by decide) ?_
          exact g_ireturn dX4_isLeft_93 (by simp_all [lft, evn, bI]) rfl
      · refine g_iload dX4_isLeft_78 rfl ?_
        refine g_goto 93 dX4_isLeft_80 (by decide) ?_
        exact g_ireturn dX4_isLeft_93 (by simp_all [lft, evn, bI]) rfl
    refine g_tswd 151 dX4_isLeft_26 (by omega) (by decide) ?_
    refine g_iload_n dX4_isLeft_151 rfl ?_
    refine g_bipush dX4_isLeft_152 bp_50 ?_
    refine g_icmp_ge 161 dX4_isLeft_154 (by decide) (fun c154 => ?_) (fun c154 => ?_)
    · refine g_iconst dX4_isLeft_161 ic_0 ?_
      exact g_ireturn dX4_isLeft_162 (by simp_all [lft, evn, bI]) rfl
    · refine g_iconst dX4_isLeft_157 ic_1 ?_
      refine g_goto 162 dX4_isLeft_158 (by decide) ?_
      exact g_ireturn dX4_isLeft_162 (by simp_all [lft, evn, bI]) rfl

set_option maxRecDepth 100000 in
set_option maxHeartbeats 4000000 in
theorem c_X4_bends {X : Sc} {h : Hp} {d : Nat} (hd : d < 8) {l : Bool} : Ct X yX4_bends cX4_bends 4 (some .int) 1 [.ref 28, .int (nI d), .int (bI l)] h (some (.int (bnd (dF (h 11) d 0) l))) h := by
  refine ⟨rfl, ?_⟩
  refine g_iload_n dX4_bends_0 rfl ?_
  refine g_if_eq 9 dX4_bends_1 (by decide) (fun c1 => ?_) (fun c1 => ?_)
  · refine g_iconst dX4_bends_9 ic_5 ?_
    refine g_istore_n dX4_bends_10 (by decide) rfl ?_
    refine g_aload_n dX4_bends_11 rfl ?_
    refine g_iload_n dX4_bends_12 rfl ?_
    refine g_iconst dX4_bends_13 ic_0 ?_
    refine g_callV2i (c_X4_it (w := 0) hd (by decide)) mi_X4_it mv_X4_it ml_X4_48 dX4_bends_14 rfl rfl (by decide) (Nat.le_of_ble_eq_true rfl) (Nat.le_of_ble_eq_true rfl) ?_
    refine g_tswc (1) (1) (39) 56 dX4_bends_17 (by decide) (by decide) (by decide) rfl (by decide) (fun c17 => ?_) (fun c17_0 n17_0 => ?_)
    · refine g_iload_n dX4_bends_56 rfl ?_
      refine g_iconst dX4_bends_57 ic_1 ?_
      refine g_isub dX4_bends_58 ?_
      exact g_ireturn dX4_bends_59 (by simp_all [bnd, bI]) rfl
    refine g_tswc (2) (2) (45) 62 dX4_bends_17 (by decide) (by decide) (by decide) rfl (by decide) (fun c17 => ?_) (fun c17_1 n17_1 => ?_)
    · refine g_iconst dX4_bends_62 ic_2 ?_
      refine g_iload_n dX4_bends_63 rfl ?_
      refine g_imul dX4_bends_64 ?_
      exact g_ireturn dX4_bends_65 (by simp_all [bnd, bI]) rfl
    refine g_tswc (3) (3) (49) 66 dX4_bends_17 (by decide) (by decide) (by decide) rfl (by decide) (fun c17 => ?_) (fun c17_2 n17_2 => ?_)
    · refine g_iconst dX4_bends_66 ic_2 ?_
      refine g_iload_n dX4_bends_67 rfl ?_
      refine g_imul dX4_bends_68 ?_
      refine g_iconst dX4_bends_69 ic_3 ?_
      refine g_iadd dX4_bends_70 ?_
      exact g_ireturn dX4_bends_71 (by simp_all [bnd, bI]) rfl
    refine g_tswc (4) (4) (55) 72 dX4_bends_17 (by decide) (by decide) (by decide) rfl (by decide) (fun c17 => ?_) (fun c17_3 n17_3 => ?_)
    · refine g_iconst dX4_bends_72 ic_3 ?_
      refine g_iconst dX4_bends_73 ic_2 ?_
      refine g_iload_n dX4_bends_74 rfl ?_
      refine g_imul dX4_bends_75 ?_
      refine g_isub dX4_bends_76 ?_
      exact g_ireturn dX4_bends_77 (by simp_all [bnd, bI]) rfl
    refine g_tswc (5) (5) (61) 78 dX4_bends_17 (by decide) (by decide) (by decide) rfl (by decide) (fun c17 => ?_) (fun c17_4 n17_4 => ?_)
    · refine g_iconst dX4_bends_78 ic_0 ?_
      exact g_ireturn dX4_bends_79 (by simp_all [bnd, bI]) rfl
    refine g_tswc (6) (6) (43) 60 dX4_bends_17 (by decide) (by decide) (by decide) rfl (by decide) (fun c17 => ?_) (fun c17_5 n17_5 => ?_)
    · refine g_iconst dX4_bends_60 ic_1 ?_
      exact g_ireturn dX4_bends_61 (by simp_all [bnd, bI]) rfl
    refine g_tswd 80 dX4_bends_17 (by omega) (by decide) ?_
    refine g_iload_n dX4_bends_80 rfl ?_
    exact g_ireturn dX4_bends_81 (by simp_all [bnd, bI]) rfl
  · refine g_bipush dX4_bends_4 bp_m5 ?_
    refine g_goto 10 dX4_bends_6 (by decide) ?_
    refine g_istore_n dX4_bends_10 (by decide) rfl ?_
    refine g_aload_n dX4_bends_11 rfl ?_
    refine g_iload_n dX4_bends_12 rfl ?_
    refine g_iconst dX4_bends_13 ic_0 ?_
    refine g_callV2i (c_X4_it (w := 0) hd (by decide)) mi_X4_it mv_X4_it ml_X4_48 dX4_bends_14 rfl rfl (by decide) (Nat.le_of_ble_eq_true rfl) (Nat.le_of_ble_eq_true rfl) ?_
    refine g_tswc (1) (1) (39) 56 dX4_bends_17 (by decide) (by decide) (by decide) rfl (by decide) (fun c17 => ?_) (fun c17_0 n17_0 => ?_)
    · refine g_iload_n dX4_bends_56 rfl ?_
      refine g_iconst dX4_bends_57 ic_1 ?_
      refine g_isub dX4_bends_58 ?_
      exact g_ireturn dX4_bends_59 (by simp_all [bnd, bI]) rfl
    refine g_tswc (2) (2) (45) 62 dX4_bends_17 (by decide) (by decide) (by decide) rfl (by decide) (fun c17 => ?_) (fun c17_1 n17_1 => ?_)
    · refine g_iconst dX4_bends_62 ic_2 ?_
      refine g_iload_n dX4_bends_63 rfl ?_
      refine g_imul dX4_bends_64 ?_
      exact g_ireturn dX4_bends_65 (by simp_all [bnd, bI]) rfl
    refine g_tswc (3) (3) (49) 66 dX4_bends_17 (by decide) (by decide) (by decide) rfl (by decide) (fun c17 => ?_) (fun c17_2 n17_2 => ?_)
    · refine g_iconst dX4_bends_66 ic_2 ?_
      refine g_iload_n dX4_bends_67 rfl ?_
      refine g_imul dX4_bends_68 ?_
      refine g_iconst dX4_bends_69 ic_3 ?_
      refine g_iadd dX4_bends_70 ?_
      exact g_ireturn dX4_bends_71 (by simp_all [bnd, bI]) rfl
    refine g_tswc (4) (4) (55) 72 dX4_bends_17 (by decide) (by decide) (by decide) rfl (by decide) (fun c17 => ?_) (fun c17_3 n17_3 => ?_)
    · refine g_iconst dX4_bends_72 ic_3 ?_
      refine g_iconst dX4_bends_73 ic_2 ?_
      refine g_iload_n dX4_bends_74 rfl ?_
      refine g_imul dX4_bends_75 ?_
      refine g_isub dX4_bends_76 ?_
      exact g_ireturn dX4_bends_77 (by simp_all [bnd, bI]) rfl
    refine g_tswc (5) (5) (61) 78 dX4_bends_17 (by decide) (by decide) (by decide) rfl (by decide) (fun c17 => ?_) (fun c17_4 n17_4 => ?_)
    · refine g_iconst dX4_bends_78 ic_0 ?_
      exact g_ireturn dX4_bends_79 (by simp_all [bnd, bI]) rfl
    refine g_tswc (6) (6) (43) 60 dX4_bends_17 (by decide) (by decide) (by decide) rfl (by decide) (fun c17 => ?_) (fun c17_5 n17_5 => ?_)
    · refine g_iconst dX4_bends_60 ic_1 ?_
      exact g_ireturn dX4_bends_61 (by simp_all [bnd, bI]) rfl
    refine g_tswd 80 dX4_bends_17 (by omega) (by decide) ?_
    refine g_iload_n dX4_bends_80 rfl ?_
    exact g_ireturn dX4_bends_81 (by simp_all [bnd, bI]) rfl

set_option maxRecDepth 100000 in
set_option maxHeartbeats 4000000 in
theorem c_X4_costs {X : Sc} {h : Hp} {e d : Nat} (he : e < 6) (hd : d < 8) {l : Bool} : Ct X yX4_costs cX4_costs 6 (some .int) 1 [.ref 28, .int (nI e), .int (nI d), .int (bI l)] h (some (.int (cst (h 11) e d l))) h := by
  refine ⟨rfl, ?_⟩
  refine g_aload_n dX4_costs_0 rfl ?_
  refine g_iload_n dX4_costs_1 rfl ?_
  refine g_iconst dX4_costs_2 ic_3 ?_
  refine g_callV2i (c_X4_it (w := 3) hd (by decide)) mi_X4_it mv_X4_it ml_X4_48 dX4_costs_3 rfl rfl (by decide) (Nat.le_of_ble_eq_true rfl) (Nat.le_of_ble_eq_true rfl) ?_
  refine g_istore dX4_costs_6 (by decide) rfl ?_
  refine g_iload dX4_costs_8 rfl ?_
  refine g_aload_n dX4_costs_10 rfl ?_
  refine g_iload_n dX4_costs_11 rfl ?_
  refine g_iconst dX4_costs_12 ic_0 ?_
  refine g_callV2i (c_X4_his (w := 0) he (by decide)) mi_X4_his mv_X4_his ml_X4_44 dX4_costs_13 rfl rfl (by decide) (Nat.le_of_ble_eq_true rfl) (Nat.le_of_ble_eq_true rfl) ?_
  refine g_bipush dX4_costs_16 bp_10 ?_
  refine g_idiv dX4_costs_18 (by decide) ?_
  refine g_iadd dX4_costs_19 ?_
  refine g_istore dX4_costs_20 (by decide) rfl ?_
  refine g_aload_n dX4_costs_22 rfl ?_
  refine g_iload_n dX4_costs_23 rfl ?_
  refine g_iconst dX4_costs_24 ic_0 ?_
  refine g_callV2i (c_X4_it (w := 0) hd (by decide)) mi_X4_it mv_X4_it ml_X4_48 dX4_costs_25 rfl rfl (by decide) (Nat.le_of_ble_eq_true rfl) (Nat.le_of_ble_eq_true rfl) ?_
  refine g_tswc (1) (1) (40) 68 dX4_costs_28 (by decide) (by decide) (by decide) rfl (by decide) (fun c28 => ?_) (fun c28_0 n28_0 => ?_)
  · refine g_iload dX4_costs_68 rfl ?_
    refine g_iconst dX4_costs_70 ic_2 ?_
    refine g_icmp_le 81 dX4_costs_71 (by decide) (fun c71 => ?_) (fun c71 => ?_)
    · refine g_iconst dX4_costs_81 ic_0 ?_
      exact g_ireturn dX4_costs_82 (by first | (rw [cst, if_pos c28, if_neg (Int32.not_lt.mpr c71)]) | (rw [cst, if_pos c28, if_pos (Int32.not_le.mp c71)])) rfl
    · refine g_iload dX4_costs_74 rfl ?_
      refine g_iconst dX4_costs_76 ic_2 ?_
      refine g_isub dX4_costs_77 ?_
      refine g_goto 82 dX4_costs_78 (by decide) ?_
      exact g_ireturn dX4_costs_82 (by first | (rw [cst, if_pos c28, if_neg (Int32.not_lt.mpr c71)]) | (rw [cst, if_pos c28, if_pos (Int32.not_le.mp c71)])) rfl
  refine g_tswc (2) (2) (57) 85 dX4_costs_28 (by decide) (by decide) (by decide) rfl (by decide) (fun c28 => ?_) (fun c28_1 n28_1 => ?_)
  · refine g_iload dX4_costs_85 rfl ?_
    exact g_ireturn dX4_costs_87 (by simp_all [cst, bI]) rfl
  refine g_tswc (3) (3) (60) 88 dX4_costs_28 (by decide) (by decide) (by decide) rfl (by decide) (fun c28 => ?_) (fun c28_2 n28_2 => ?_)
  · refine g_iconst dX4_costs_88 ic_2 ?_
    refine g_iload dX4_costs_89 rfl ?_
    refine g_imul dX4_costs_91 ?_
    exact g_ireturn dX4_costs_92 (by simp_all [cst, bI]) rfl
  refine g_tswc (4) (4) (65) 93 dX4_costs_28 (by decide) (by decide) (by decide) rfl (by decide) (fun c28 => ?_) (fun c28_3 n28_3 => ?_)
  · refine g_iload_n dX4_costs_93 rfl ?_
    refine g_if_eq 104 dX4_costs_94 (by decide) (fun c94 => ?_) (fun c94 => ?_)
    · refine g_iload dX4_costs_104 rfl ?_
      exact g_ireturn dX4_costs_106 (by simp_all [cst, bI]) rfl
    · refine g_iconst dX4_costs_97 ic_2 ?_
      refine g_iload dX4_costs_98 rfl ?_
      refine g_imul dX4_costs_100 ?_
      refine g_goto 106 dX4_costs_101 (by decide) ?_
      exact g_ireturn dX4_costs_106 (by simp_all [cst, bI]) rfl
  refine g_tswc (5) (5) (79) 107 dX4_costs_28 (by decide) (by decide) (by decide) rfl (by decide) (fun c28 => ?_) (fun c28_4 n28_4 => ?_)
  · refine g_iload dX4_costs_107 rfl ?_
    exact g_ireturn dX4_costs_109 (by simp_all [cst, bI]) rfl
  refine g_tswc (6) (6) (55) 83 dX4_costs_28 (by decide) (by decide) (by decide) rfl (by decide) (fun c28 => ?_) (fun c28_5 n28_5 => ?_)
  · refine g_iconst dX4_costs_83 ic_1 ?_
    exact g_ireturn dX4_costs_84 (by simp_all [cst, bI]) rfl
  refine g_tswd 107 dX4_costs_28 (by omega) (by decide) ?_
  refine g_iload dX4_costs_107 rfl ?_
  exact g_ireturn dX4_costs_109 (by simp_all [cst, bI]) rfl

set_option maxRecDepth 100000 in
set_option maxHeartbeats 4000000 in
theorem c_X4_comes {X : Sc} {h : Hp} {x y z : Int32} (e2 : h 11 2 = nI (nD (h 11))) (hn : nD (h 11) < 8) : Ct X yX4_comes cX4_comes 5 (some .int) 1 [.ref 28, .int x, .int y, .int z] h (some (.int (nI (nD (h 11))))) (setg h 11 (newD (h 11) x y z)) := by
  refine ⟨rfl, ?_⟩
  refine g_aload_n dX4_comes_0 rfl ?_
  refine g_getR dX4_comes_1 fl_X4_9 rfl rfl ?_
  refine g_iconst dX4_comes_4 ic_2 ?_
  refine g_iald0 2 dX4_comes_5 rfl rfl (by decide) ?_
  refine g_st (st2 := [.int (nI (nD (h 11)))]) (by rw [e2]) ?_
  refine g_istore dX4_comes_6 (by decide) rfl ?_
  refine g_aload_n dX4_comes_8 rfl ?_
  refine g_getR dX4_comes_9 fl_X4_9 rfl rfl ?_
  refine g_iconst dX4_comes_12 ic_2 ?_
  refine g_dup2 dX4_comes_13 rfl rfl ?_
  refine g_iald0 2 dX4_comes_14 rfl rfl (by decide) ?_
  refine g_iconst dX4_comes_15 ic_1 ?_
  refine g_iadd dX4_comes_16 ?_
  refine g_iast0 2 dX4_comes_17 rfl rfl (by decide) ?_
  refine g_aload_n dX4_comes_18 rfl ?_
  refine g_iload dX4_comes_19 rfl ?_
  refine g_iconst dX4_comes_21 ic_0 ?_
  refine g_iload_n dX4_comes_22 rfl ?_
  refine g_callV3v (c_X4_put (d := nD (h 11)) (w := 0) hn (by decide)) mi_X4_put mv_X4_put ml_X4_62 dX4_comes_23 rfl rfl (by decide) (Nat.le_of_ble_eq_true rfl) (Nat.le_of_ble_eq_true rfl) ?_
  refine g_aload_n dX4_comes_26 rfl ?_
  refine g_iload dX4_comes_27 rfl ?_
  refine g_iconst dX4_comes_29 ic_1 ?_
  refine g_iload_n dX4_comes_30 rfl ?_
  refine g_callV3v (c_X4_put (d := nD (h 11)) (w := 1) hn (by decide)) mi_X4_put mv_X4_put ml_X4_62 dX4_comes_31 rfl rfl (by decide) (Nat.le_of_ble_eq_true rfl) (Nat.le_of_ble_eq_true rfl) ?_
  refine g_aload_n dX4_comes_34 rfl ?_
  refine g_iload dX4_comes_35 rfl ?_
  refine g_iconst dX4_comes_37 ic_2 ?_
  refine g_iload_n dX4_comes_38 rfl ?_
  refine g_callV3v (c_X4_put (d := nD (h 11)) (w := 2) hn (by decide)) mi_X4_put mv_X4_put ml_X4_62 dX4_comes_39 rfl rfl (by decide) (Nat.le_of_ble_eq_true rfl) (Nat.le_of_ble_eq_true rfl) ?_
  refine g_aload_n dX4_comes_42 rfl ?_
  refine g_iload dX4_comes_43 rfl ?_
  refine g_iconst dX4_comes_45 ic_3 ?_
  refine g_bipush dX4_comes_46 bp_10 ?_
  refine g_callV3v (c_X4_put (d := nD (h 11)) (w := 3) hn (by decide)) mi_X4_put mv_X4_put ml_X4_62 dX4_comes_48 rfl rfl (by decide) (Nat.le_of_ble_eq_true rfl) (Nat.le_of_ble_eq_true rfl) ?_
  refine g_aload_n dX4_comes_51 rfl ?_
  refine g_iload dX4_comes_52 rfl ?_
  refine g_iconst dX4_comes_54 ic_4 ?_
  refine g_iconst dX4_comes_55 ic_0 ?_
  refine g_callV3v (c_X4_put (d := nD (h 11)) (w := 4) hn (by decide)) mi_X4_put mv_X4_put ml_X4_62 dX4_comes_56 rfl rfl (by decide) (Nat.le_of_ble_eq_true rfl) (Nat.le_of_ble_eq_true rfl) ?_
  refine g_aload_n dX4_comes_59 rfl ?_
  refine g_iload dX4_comes_60 rfl ?_
  refine g_iconst dX4_comes_62 ic_5 ?_
  refine g_iconst dX4_comes_63 ic_0 ?_
  refine g_callV3v (c_X4_put (d := nD (h 11)) (w := 5) hn (by decide)) mi_X4_put mv_X4_put ml_X4_62 dX4_comes_64 rfl rfl (by decide) (Nat.le_of_ble_eq_true rfl) (Nat.le_of_ble_eq_true rfl) ?_
  refine g_iload dX4_comes_67 rfl ?_
  exact g_ireturn dX4_comes_69 rfl (by simp [setg_s, setg_2, up_setg, newD])

def newG2 (m : Rw) (bent town : Int32) : Rw := pG (pG (pG (pG (pG (upd m 3 (m 3 + 1)) (nG m) 0 bent) (nG m) 1 town) (nG m) 2 0) (nG m) 3 0) (nG m) 4 0
theorem newG2_0 (m : Rw) (b : Int32) : newG2 m b 0 = newG m b := rfl
set_option maxRecDepth 100000 in
set_option maxHeartbeats 4000000 in
theorem c_X4_enters {X : Sc} {h : Hp} {x y : Int32} (e3 : h 11 3 = nI (nG (h 11))) (hn : nG (h 11) < 6) : Ct X yX4_enters cX4_enters 4 (some .int) 1 [.ref 28, .int x, .int y] h (some (.int (nI (nG (h 11))))) (setg h 11 (newG2 (h 11) x y)) := by
  refine ⟨rfl, ?_⟩
  refine g_aload_n dX4_enters_0 rfl ?_
  refine g_getR dX4_enters_1 fl_X4_9 rfl rfl ?_
  refine g_iconst dX4_enters_4 ic_3 ?_
  refine g_iald0 3 dX4_enters_5 rfl rfl (by decide) ?_
  refine g_st (st2 := [.int (nI (nG (h 11)))]) (by rw [e3]) ?_
  refine g_istore_n dX4_enters_6 (by decide) rfl ?_
  refine g_aload_n dX4_enters_7 rfl ?_
  refine g_getR dX4_enters_8 fl_X4_9 rfl rfl ?_
  refine g_iconst dX4_enters_11 ic_3 ?_
  refine g_dup2 dX4_enters_12 rfl rfl ?_
  refine g_iald0 3 dX4_enters_13 rfl rfl (by decide) ?_
  refine g_iconst dX4_enters_14 ic_1 ?_
  refine g_iadd dX4_enters_15 ?_
  refine g_iast0 3 dX4_enters_16 rfl rfl (by decide) ?_
  refine g_aload_n dX4_enters_17 rfl ?_
  refine g_iload_n dX4_enters_18 rfl ?_
  refine g_iconst dX4_enters_19 ic_0 ?_
  refine g_iload_n dX4_enters_20 rfl ?_
  refine g_callV3v (c_X4_lets (e := nG (h 11)) (w := 0) hn (by decide)) mi_X4_lets mv_X4_lets ml_X4_74 dX4_enters_21 rfl rfl (by decide) (Nat.le_of_ble_eq_true rfl) (Nat.le_of_ble_eq_true rfl) ?_
  refine g_aload_n dX4_enters_24 rfl ?_
  refine g_iload_n dX4_enters_25 rfl ?_
  refine g_iconst dX4_enters_26 ic_1 ?_
  refine g_iload_n dX4_enters_27 rfl ?_
  refine g_callV3v (c_X4_lets (e := nG (h 11)) (w := 1) hn (by decide)) mi_X4_lets mv_X4_lets ml_X4_74 dX4_enters_28 rfl rfl (by decide) (Nat.le_of_ble_eq_true rfl) (Nat.le_of_ble_eq_true rfl) ?_
  refine g_aload_n dX4_enters_31 rfl ?_
  refine g_iload_n dX4_enters_32 rfl ?_
  refine g_iconst dX4_enters_33 ic_2 ?_
  refine g_iconst dX4_enters_34 ic_0 ?_
  refine g_callV3v (c_X4_lets (e := nG (h 11)) (w := 2) hn (by decide)) mi_X4_lets mv_X4_lets ml_X4_74 dX4_enters_35 rfl rfl (by decide) (Nat.le_of_ble_eq_true rfl) (Nat.le_of_ble_eq_true rfl) ?_
  refine g_aload_n dX4_enters_38 rfl ?_
  refine g_iload_n dX4_enters_39 rfl ?_
  refine g_iconst dX4_enters_40 ic_3 ?_
  refine g_iconst dX4_enters_41 ic_0 ?_
  refine g_callV3v (c_X4_lets (e := nG (h 11)) (w := 3) hn (by decide)) mi_X4_lets mv_X4_lets ml_X4_74 dX4_enters_42 rfl rfl (by decide) (Nat.le_of_ble_eq_true rfl) (Nat.le_of_ble_eq_true rfl) ?_
  refine g_aload_n dX4_enters_45 rfl ?_
  refine g_iload_n dX4_enters_46 rfl ?_
  refine g_iconst dX4_enters_47 ic_4 ?_
  refine g_iconst dX4_enters_48 ic_0 ?_
  refine g_callV3v (c_X4_lets (e := nG (h 11)) (w := 4) hn (by decide)) mi_X4_lets mv_X4_lets ml_X4_74 dX4_enters_49 rfl rfl (by decide) (Nat.le_of_ble_eq_true rfl) (Nat.le_of_ble_eq_true rfl) ?_
  refine g_iload_n dX4_enters_52 rfl ?_
  exact g_ireturn dX4_enters_53 rfl (by simp [setg_s, setg_2, up_setg, newG2])

set_option maxRecDepth 100000 in
set_option maxHeartbeats 4000000 in
theorem c_X4_eats {X : Sc} {h : Hp} (hI : In (h 11)) {e d : Nat} (he : e < 6) (hd : d < 8) : Ct X yX4_eats cX4_eats 5 (some .int) 3 [.ref 28, .int (nI e), .int (nI d)] h (some (.int (twn (h 11) d (lft (h 11) e d)))) (setg h 11 (eatR (h 11) e d)) := by
  refine ⟨rfl, ?_⟩
  refine g_aload_n dX4_eats_0 rfl ?_
  refine g_iload_n dX4_eats_1 rfl ?_
  refine g_iload_n dX4_eats_2 rfl ?_
  refine g_callV2i (c_X4_isLeft hI he hd) mi_X4_isLeft mv_X4_isLeft ml_X4_93 dX4_eats_3 rfl rfl (by decide) (Nat.le_of_ble_eq_true rfl) (Nat.le_of_ble_eq_true rfl) ?_
  refine g_istore_n dX4_eats_6 (by decide) rfl ?_
  refine g_aload_n dX4_eats_7 rfl ?_
  refine g_iload_n dX4_eats_8 rfl ?_
  refine g_iload_n dX4_eats_9 rfl ?_
  refine g_if_eq 17 dX4_eats_10 (by decide) (fun c10 => ?_) (fun c10 => ?_)
  · refine g_iconst dX4_eats_17 ic_2 ?_
    first
    | refine g_callV2i (c_X4_it (w := 1) hd (by decide)) mi_X4_it mv_X4_it ml_X4_48 dX4_eats_18 rfl rfl (by decide) (Nat.le_of_ble_eq_true rfl) (Nat.le_of_ble_eq_true rfl) ?_
    | refine g_callV2i (c_X4_it (w := 2) hd (by decide)) mi_X4_it mv_X4_it ml_X4_48 dX4_eats_18 rfl rfl (by decide) (Nat.le_of_ble_eq_true rfl) (Nat.le_of_ble_eq_true rfl) ?_
    refine g_st (st2 := [.int (twn (h 11) d (lft (h 11) e d))]) (by simp_all [twn, bI_0]) ?_
    refine g_istore dX4_eats_21 (by decide) rfl ?_
    refine g_aload_n dX4_eats_23 rfl ?_
    refine g_iload_n dX4_eats_24 rfl ?_
    refine g_iconst dX4_eats_25 ic_2 ?_
    refine g_aload_n dX4_eats_26 rfl ?_
    refine g_iload_n dX4_eats_27 rfl ?_
    refine g_iconst dX4_eats_28 ic_2 ?_
    refine g_callV2i (c_X4_his (w := 2) he (by decide)) mi_X4_his mv_X4_his ml_X4_44 dX4_eats_29 rfl rfl (by decide) (Nat.le_of_ble_eq_true rfl) (Nat.le_of_ble_eq_true rfl) ?_
    refine g_aload_n dX4_eats_32 rfl ?_
    refine g_iload_n dX4_eats_33 rfl ?_
    refine g_iload_n dX4_eats_34 rfl ?_
    refine g_iload_n dX4_eats_35 rfl ?_
    refine g_callV3i (c_X4_costs he hd) mi_X4_costs mv_X4_costs ml_X4_96 dX4_eats_36 rfl rfl (by decide) (Nat.le_of_ble_eq_true rfl) (Nat.le_of_ble_eq_true rfl) ?_
    refine g_iadd dX4_eats_39 ?_
    refine g_iconst dX4_eats_40 ic_0 ?_
    refine g_ldc dX4_eats_41 lc_X4_89 ?_
    refine g_callS3i (c_X4_held) mi_X4_held ms_X4_held ml_X4_104 dX4_eats_43 (by decide) (Nat.le_of_ble_eq_true rfl) (Nat.le_of_ble_eq_true rfl) ?_
    refine g_callV3v (c_X4_lets (w := 2) he (by decide)) mi_X4_lets mv_X4_lets ml_X4_74 dX4_eats_46 rfl rfl (by decide) (Nat.le_of_ble_eq_true rfl) (Nat.le_of_ble_eq_true rfl) ?_
    refine g_aload_n dX4_eats_49 rfl ?_
    refine g_iload_n dX4_eats_50 rfl ?_
    refine g_iconst dX4_eats_51 ic_1 ?_
    refine g_iload dX4_eats_52 rfl ?_
    refine g_callV3v (c_X4_lets (w := 1) he (by decide)) mi_X4_lets mv_X4_lets ml_X4_74 dX4_eats_54 rfl rfl (by decide) (Nat.le_of_ble_eq_true rfl) (Nat.le_of_ble_eq_true rfl) ?_
    refine g_aload_n dX4_eats_57 rfl ?_
    refine g_iload_n dX4_eats_58 rfl ?_
    refine g_iconst dX4_eats_59 ic_3 ?_
    refine g_aload_n dX4_eats_60 rfl ?_
    refine g_iload_n dX4_eats_61 rfl ?_
    refine g_iconst dX4_eats_62 ic_3 ?_
    refine g_callV2i (c_X4_his (w := 3) he (by decide)) mi_X4_his mv_X4_his ml_X4_44 dX4_eats_63 rfl rfl (by decide) (Nat.le_of_ble_eq_true rfl) (Nat.le_of_ble_eq_true rfl) ?_
    refine g_iconst dX4_eats_66 ic_1 ?_
    refine g_iload dX4_eats_67 rfl ?_
    refine g_ishl dX4_eats_69 ?_
    refine g_ior dX4_eats_70 ?_
    refine g_callV3v (c_X4_lets (w := 3) he (by decide)) mi_X4_lets mv_X4_lets ml_X4_74 dX4_eats_71 rfl rfl (by decide) (Nat.le_of_ble_eq_true rfl) (Nat.le_of_ble_eq_true rfl) ?_
    refine g_aload_n dX4_eats_74 rfl ?_
    refine g_iload_n dX4_eats_75 rfl ?_
    refine g_iconst dX4_eats_76 ic_4 ?_
    refine g_aload_n dX4_eats_77 rfl ?_
    refine g_iload_n dX4_eats_78 rfl ?_
    refine g_iconst dX4_eats_79 ic_4 ?_
    refine g_callV2i (c_X4_his (w := 4) he (by decide)) mi_X4_his mv_X4_his ml_X4_44 dX4_eats_80 rfl rfl (by decide) (Nat.le_of_ble_eq_true rfl) (Nat.le_of_ble_eq_true rfl) ?_
    refine g_iconst dX4_eats_83 ic_1 ?_
    refine g_iadd dX4_eats_84 ?_
    refine g_iconst dX4_eats_85 ic_0 ?_
    refine g_sipush dX4_eats_86 sp_9999 ?_
    refine g_callS3i (c_X4_held) mi_X4_held ms_X4_held ml_X4_104 dX4_eats_89 (by decide) (Nat.le_of_ble_eq_true rfl) (Nat.le_of_ble_eq_true rfl) ?_
    refine g_callV3v (c_X4_lets (w := 4) he (by decide)) mi_X4_lets mv_X4_lets ml_X4_74 dX4_eats_92 rfl rfl (by decide) (Nat.le_of_ble_eq_true rfl) (Nat.le_of_ble_eq_true rfl) ?_
    refine g_aload_n dX4_eats_95 rfl ?_
    refine g_iload_n dX4_eats_96 rfl ?_
    refine g_iconst dX4_eats_97 ic_0 ?_
    refine g_aload_n dX4_eats_98 rfl ?_
    refine g_iload_n dX4_eats_99 rfl ?_
    refine g_iconst dX4_eats_100 ic_0 ?_
    refine g_callV2i (c_X4_his (w := 0) he (by decide)) mi_X4_his mv_X4_his ml_X4_44 dX4_eats_101 rfl rfl (by decide) (Nat.le_of_ble_eq_true rfl) (Nat.le_of_ble_eq_true rfl) ?_
    refine g_aload_n dX4_eats_104 rfl ?_
    refine g_iload_n dX4_eats_105 rfl ?_
    refine g_iload_n dX4_eats_106 rfl ?_
    refine g_callV2i (c_X4_bends hd) mi_X4_bends mv_X4_bends ml_X4_100 dX4_eats_107 rfl rfl (by decide) (Nat.le_of_ble_eq_true rfl) (Nat.le_of_ble_eq_true rfl) ?_
    refine g_iadd dX4_eats_110 ?_
    refine g_iconst dX4_eats_111 ic_0 ?_
    refine g_bipush dX4_eats_112 bp_99 ?_
    refine g_callS3i (c_X4_held) mi_X4_held ms_X4_held ml_X4_104 dX4_eats_114 (by decide) (Nat.le_of_ble_eq_true rfl) (Nat.le_of_ble_eq_true rfl) ?_
    refine g_callV3v (c_X4_lets (w := 0) he (by decide)) mi_X4_lets mv_X4_lets ml_X4_74 dX4_eats_117 rfl rfl (by decide) (Nat.le_of_ble_eq_true rfl) (Nat.le_of_ble_eq_true rfl) ?_
    refine g_aload_n dX4_eats_120 rfl ?_
    refine g_iload_n dX4_eats_121 rfl ?_
    refine g_iconst dX4_eats_122 ic_4 ?_
    refine g_aload_n dX4_eats_123 rfl ?_
    refine g_iload_n dX4_eats_124 rfl ?_
    refine g_iconst dX4_eats_125 ic_4 ?_
    refine g_callV2i (c_X4_it (w := 4) hd (by decide)) mi_X4_it mv_X4_it ml_X4_48 dX4_eats_126 rfl rfl (by decide) (Nat.le_of_ble_eq_true rfl) (Nat.le_of_ble_eq_true rfl) ?_
    refine g_iconst dX4_eats_129 ic_1 ?_
    refine g_iadd dX4_eats_130 ?_
    refine g_iconst dX4_eats_131 ic_0 ?_
    refine g_sipush dX4_eats_132 sp_9999 ?_
    refine g_callS3i (c_X4_held) mi_X4_held ms_X4_held ml_X4_104 dX4_eats_135 (by decide) (Nat.le_of_ble_eq_true rfl) (Nat.le_of_ble_eq_true rfl) ?_
    refine g_callV3v (c_X4_put (w := 4) hd (by decide)) mi_X4_put mv_X4_put ml_X4_62 dX4_eats_138 rfl rfl (by decide) (Nat.le_of_ble_eq_true rfl) (Nat.le_of_ble_eq_true rfl) ?_
    refine g_iload dX4_eats_141 rfl ?_
    exact g_ireturn dX4_eats_143 rfl (by simp only [setg_s, setg_2]; congr 1; simp [gF_pGn, dF_pG, hd, eatR])
  · refine g_iconst dX4_eats_13 ic_1 ?_
    refine g_goto 18 dX4_eats_14 (by decide) ?_
    first
    | refine g_callV2i (c_X4_it (w := 1) hd (by decide)) mi_X4_it mv_X4_it ml_X4_48 dX4_eats_18 rfl rfl (by decide) (Nat.le_of_ble_eq_true rfl) (Nat.le_of_ble_eq_true rfl) ?_
    | refine g_callV2i (c_X4_it (w := 2) hd (by decide)) mi_X4_it mv_X4_it ml_X4_48 dX4_eats_18 rfl rfl (by decide) (Nat.le_of_ble_eq_true rfl) (Nat.le_of_ble_eq_true rfl) ?_
    refine g_st (st2 := [.int (twn (h 11) d (lft (h 11) e d))]) (by simp_all [twn, bI_0]) ?_
    refine g_istore dX4_eats_21 (by decide) rfl ?_
    refine g_aload_n dX4_eats_23 rfl ?_
    refine g_iload_n dX4_eats_24 rfl ?_
    refine g_iconst dX4_eats_25 ic_2 ?_
    refine g_aload_n dX4_eats_26 rfl ?_
    refine g_iload_n dX4_eats_27 rfl ?_
    refine g_iconst dX4_eats_28 ic_2 ?_
    refine g_callV2i (c_X4_his (w := 2) he (by decide)) mi_X4_his mv_X4_his ml_X4_44 dX4_eats_29 rfl rfl (by decide) (Nat.le_of_ble_eq_true rfl) (Nat.le_of_ble_eq_true rfl) ?_
    refine g_aload_n dX4_eats_32 rfl ?_
    refine g_iload_n dX4_eats_33 rfl ?_
    refine g_iload_n dX4_eats_34 rfl ?_
    refine g_iload_n dX4_eats_35 rfl ?_
    refine g_callV3i (c_X4_costs he hd) mi_X4_costs mv_X4_costs ml_X4_96 dX4_eats_36 rfl rfl (by decide) (Nat.le_of_ble_eq_true rfl) (Nat.le_of_ble_eq_true rfl) ?_
    refine g_iadd dX4_eats_39 ?_
    refine g_iconst dX4_eats_40 ic_0 ?_
    refine g_ldc dX4_eats_41 lc_X4_89 ?_
    refine g_callS3i (c_X4_held) mi_X4_held ms_X4_held ml_X4_104 dX4_eats_43 (by decide) (Nat.le_of_ble_eq_true rfl) (Nat.le_of_ble_eq_true rfl) ?_
    refine g_callV3v (c_X4_lets (w := 2) he (by decide)) mi_X4_lets mv_X4_lets ml_X4_74 dX4_eats_46 rfl rfl (by decide) (Nat.le_of_ble_eq_true rfl) (Nat.le_of_ble_eq_true rfl) ?_
    refine g_aload_n dX4_eats_49 rfl ?_
    refine g_iload_n dX4_eats_50 rfl ?_
    refine g_iconst dX4_eats_51 ic_1 ?_
    refine g_iload dX4_eats_52 rfl ?_
    refine g_callV3v (c_X4_lets (w := 1) he (by decide)) mi_X4_lets mv_X4_lets ml_X4_74 dX4_eats_54 rfl rfl (by decide) (Nat.le_of_ble_eq_true rfl) (Nat.le_of_ble_eq_true rfl) ?_
    refine g_aload_n dX4_eats_57 rfl ?_
    refine g_iload_n dX4_eats_58 rfl ?_
    refine g_iconst dX4_eats_59 ic_3 ?_
    refine g_aload_n dX4_eats_60 rfl ?_
    refine g_iload_n dX4_eats_61 rfl ?_
    refine g_iconst dX4_eats_62 ic_3 ?_
    refine g_callV2i (c_X4_his (w := 3) he (by decide)) mi_X4_his mv_X4_his ml_X4_44 dX4_eats_63 rfl rfl (by decide) (Nat.le_of_ble_eq_true rfl) (Nat.le_of_ble_eq_true rfl) ?_
    refine g_iconst dX4_eats_66 ic_1 ?_
    refine g_iload dX4_eats_67 rfl ?_
    refine g_ishl dX4_eats_69 ?_
    refine g_ior dX4_eats_70 ?_
    refine g_callV3v (c_X4_lets (w := 3) he (by decide)) mi_X4_lets mv_X4_lets ml_X4_74 dX4_eats_71 rfl rfl (by decide) (Nat.le_of_ble_eq_true rfl) (Nat.le_of_ble_eq_true rfl) ?_
    refine g_aload_n dX4_eats_74 rfl ?_
    refine g_iload_n dX4_eats_75 rfl ?_
    refine g_iconst dX4_eats_76 ic_4 ?_
    refine g_aload_n dX4_eats_77 rfl ?_
    refine g_iload_n dX4_eats_78 rfl ?_
    refine g_iconst dX4_eats_79 ic_4 ?_
    refine g_callV2i (c_X4_his (w := 4) he (by decide)) mi_X4_his mv_X4_his ml_X4_44 dX4_eats_80 rfl rfl (by decide) (Nat.le_of_ble_eq_true rfl) (Nat.le_of_ble_eq_true rfl) ?_
    refine g_iconst dX4_eats_83 ic_1 ?_
    refine g_iadd dX4_eats_84 ?_
    refine g_iconst dX4_eats_85 ic_0 ?_
    refine g_sipush dX4_eats_86 sp_9999 ?_
    refine g_callS3i (c_X4_held) mi_X4_held ms_X4_held ml_X4_104 dX4_eats_89 (by decide) (Nat.le_of_ble_eq_true rfl) (Nat.le_of_ble_eq_true rfl) ?_
    refine g_callV3v (c_X4_lets (w := 4) he (by decide)) mi_X4_lets mv_X4_lets ml_X4_74 dX4_eats_92 rfl rfl (by decide) (Nat.le_of_ble_eq_true rfl) (Nat.le_of_ble_eq_true rfl) ?_
    refine g_aload_n dX4_eats_95 rfl ?_
    refine g_iload_n dX4_eats_96 rfl ?_
    refine g_iconst dX4_eats_97 ic_0 ?_
    refine g_aload_n dX4_eats_98 rfl ?_
    refine g_iload_n dX4_eats_99 rfl ?_
    refine g_iconst dX4_eats_100 ic_0 ?_
    refine g_callV2i (c_X4_his (w := 0) he (by decide)) mi_X4_his mv_X4_his ml_X4_44 dX4_eats_101 rfl rfl (by decide) (Nat.le_of_ble_eq_true rfl) (Nat.le_of_ble_eq_true rfl) ?_
    refine g_aload_n dX4_eats_104 rfl ?_
    refine g_iload_n dX4_eats_105 rfl ?_
    refine g_iload_n dX4_eats_106 rfl ?_
    refine g_callV2i (c_X4_bends hd) mi_X4_bends mv_X4_bends ml_X4_100 dX4_eats_107 rfl rfl (by decide) (Nat.le_of_ble_eq_true rfl) (Nat.le_of_ble_eq_true rfl) ?_
    refine g_iadd dX4_eats_110 ?_
    refine g_iconst dX4_eats_111 ic_0 ?_
    refine g_bipush dX4_eats_112 bp_99 ?_
    refine g_callS3i (c_X4_held) mi_X4_held ms_X4_held ml_X4_104 dX4_eats_114 (by decide) (Nat.le_of_ble_eq_true rfl) (Nat.le_of_ble_eq_true rfl) ?_
    refine g_callV3v (c_X4_lets (w := 0) he (by decide)) mi_X4_lets mv_X4_lets ml_X4_74 dX4_eats_117 rfl rfl (by decide) (Nat.le_of_ble_eq_true rfl) (Nat.le_of_ble_eq_true rfl) ?_
    refine g_aload_n dX4_eats_120 rfl ?_
    refine g_iload_n dX4_eats_121 rfl ?_
    refine g_iconst dX4_eats_122 ic_4 ?_
    refine g_aload_n dX4_eats_123 rfl ?_
    refine g_iload_n dX4_eats_124 rfl ?_
    refine g_iconst dX4_eats_125 ic_4 ?_
    refine g_callV2i (c_X4_it (w := 4) hd (by decide)) mi_X4_it mv_X4_it ml_X4_48 dX4_eats_126 rfl rfl (by decide) (Nat.le_of_ble_eq_true rfl) (Nat.le_of_ble_eq_true rfl) ?_
    refine g_iconst dX4_eats_129 ic_1 ?_
    refine g_iadd dX4_eats_130 ?_
    refine g_iconst dX4_eats_131 ic_0 ?_
    refine g_sipush dX4_eats_132 sp_9999 ?_
    refine g_callS3i (c_X4_held) mi_X4_held ms_X4_held ml_X4_104 dX4_eats_135 (by decide) (Nat.le_of_ble_eq_true rfl) (Nat.le_of_ble_eq_true rfl) ?_
    refine g_callV3v (c_X4_put (w := 4) hd (by decide)) mi_X4_put mv_X4_put ml_X4_62 dX4_eats_138 rfl rfl (by decide) (Nat.le_of_ble_eq_true rfl) (Nat.le_of_ble_eq_true rfl) ?_
    refine g_iload dX4_eats_141 rfl ?_
    exact g_ireturn dX4_eats_143 rfl (by simp only [setg_s, setg_2]; congr 1; simp [gF_pGn, dF_pG, hd, eatR])

theorem dayM_no {m : Rw} (c : ¬ (mealOf m / 10 < nG m ∧ mealOf m % 10 < nD m ∧ dF m (mealOf m % 10) 5 = 0)) : upd m 0 (hld (m 0 + 1) 0 99999) = dayR m := by
  unfold dayR
  rw [if_neg c]
theorem dayM_yes {m : Rw} (c : mealOf m / 10 < nG m ∧ mealOf m % 10 < nD m ∧ dF m (mealOf m % 10) 5 = 0) : upd (eatR m (mealOf m / 10) (mealOf m % 10)) 0 (hld (m 0 + 1) 0 99999) = dayR m := by
  unfold dayR
  rw [if_pos c]
set_option maxRecDepth 100000 in
set_option maxHeartbeats 4000000 in
theorem c_X4_goes {X : Sc} {h : Hp} (hI : In (h 11)) : Ct X yX4_goes cX4_goes 3 none 4 [.ref 28] h none (setg h 11 (dayR (h 11))) := by
  obtain ⟨t, ht, e0⟩ := hI.day
  obtain ⟨q, h6, h8, eq⟩ := hI.meal (i := t % 6) (by omega)
  have eM : mealOf (h 11) = q := mealOf_eq (by omega) (by omega) e0 eq
  have hG := isG_nI (d := q / 10) hI.nG.2 (by have := hI.nG.1; omega) (by omega)
  have hD := isD_nI (d := q % 10) hI.nD.2 (by have := hI.nD.1; omega) (by omega)
  refine ⟨trivial, ?_⟩
  refine g_aload_n dX4_goes_0 rfl ?_
  refine g_getR dX4_goes_1 fl_X4_9 rfl rfl ?_
  refine g_iconst dX4_goes_4 ic_4 ?_
  refine g_aload_n dX4_goes_5 rfl ?_
  refine g_getR dX4_goes_6 fl_X4_9 rfl rfl ?_
  refine g_iconst dX4_goes_9 ic_0 ?_
  refine g_iald0 0 dX4_goes_10 rfl rfl (by decide) ?_
  refine g_st (st2 := [.int (nI t), .int 4, .ref 29]) (by rw [e0]) ?_
  refine g_bipush dX4_goes_11 bp_6 ?_
  refine g_irem dX4_goes_13 (by decide) ?_
  refine g_iadd dX4_goes_14 ?_
  refine g_iald0 (4 + t % 6) dX4_goes_15 rfl (by rw [rem6 (by omega), show (4 : Int32) = nI 4 from rfl, nI_add]) (by omega) ?_
  refine g_st (st2 := [.int (nI q)]) (by rw [eq]) ?_
  refine g_istore_n dX4_goes_16 (by decide) rfl ?_
  refine g_aload_n dX4_goes_17 rfl ?_
  refine g_iload_n dX4_goes_18 rfl ?_
  refine g_bipush dX4_goes_19 bp_10 ?_
  refine g_idiv dX4_goes_21 (by decide) ?_
  refine g_st (st2 := [.int (nI (q / 10)), .ref 28]) (by rw [div10 (by omega)]) ?_
  refine g_callV1i (c_X4_isGuest hI) mi_X4_isGuest mv_X4_isGuest ml_X4_86 dX4_goes_22 rfl rfl (by decide) (Nat.le_of_ble_eq_true rfl) (Nat.le_of_ble_eq_true rfl) ?_
  refine g_if_eq 64 dX4_goes_25 (by decide) (fun c25 => ?_) (fun c25 => ?_)
  · refine g_aload_n dX4_goes_64 rfl ?_
    refine g_getR dX4_goes_65 fl_X4_9 rfl rfl ?_
    refine g_iconst dX4_goes_68 ic_0 ?_
    refine g_aload_n dX4_goes_69 rfl ?_
    refine g_getR dX4_goes_70 fl_X4_9 rfl rfl ?_
    refine g_iconst dX4_goes_73 ic_0 ?_
    refine g_iald0 0 dX4_goes_74 rfl rfl (by decide) ?_
    refine g_iconst dX4_goes_75 ic_1 ?_
    refine g_iadd dX4_goes_76 ?_
    refine g_iconst dX4_goes_77 ic_0 ?_
    refine g_ldc dX4_goes_78 lc_X4_89 ?_
    refine g_callS3i (c_X4_held) mi_X4_held ms_X4_held ml_X4_104 dX4_goes_80 (by decide) (Nat.le_of_ble_eq_true rfl) (Nat.le_of_ble_eq_true rfl) ?_
    refine g_iast0 0 dX4_goes_83 rfl rfl (by decide) ?_
    exact g_return dX4_goes_84 rfl (by first | (rw [up_setg, dayM_no (by rw [eM]; rintro ⟨x1, x2, x3⟩; simp_all [bI_0])]) | (rw [up_setg, setg_s, setg_2, eatR_lo _ _ _ (by decide), ← eM, dayM_yes (by rw [eM]; refine ⟨?_, ?_, ?_⟩ <;> simp_all [bI_0])]))
  · refine g_aload_n dX4_goes_28 rfl ?_
    refine g_iload_n dX4_goes_29 rfl ?_
    refine g_bipush dX4_goes_30 bp_10 ?_
    refine g_irem dX4_goes_32 (by decide) ?_
    refine g_st (st2 := [.int (nI (q % 10)), .ref 28]) (by rw [rem10 (by omega)]) ?_
    refine g_callV1i (c_X4_isDish hI) mi_X4_isDish mv_X4_isDish ml_X4_80 dX4_goes_33 rfl rfl (by decide) (Nat.le_of_ble_eq_true rfl) (Nat.le_of_ble_eq_true rfl) ?_
    refine g_if_eq 64 dX4_goes_36 (by decide) (fun c36 => ?_) (fun c36 => ?_)
    · refine g_aload_n dX4_goes_64 rfl ?_
      refine g_getR dX4_goes_65 fl_X4_9 rfl rfl ?_
      refine g_iconst dX4_goes_68 ic_0 ?_
      refine g_aload_n dX4_goes_69 rfl ?_
      refine g_getR dX4_goes_70 fl_X4_9 rfl rfl ?_
      refine g_iconst dX4_goes_73 ic_0 ?_
      refine g_iald0 0 dX4_goes_74 rfl rfl (by decide) ?_
      refine g_iconst dX4_goes_75 ic_1 ?_
      refine g_iadd dX4_goes_76 ?_
      refine g_iconst dX4_goes_77 ic_0 ?_
      refine g_ldc dX4_goes_78 lc_X4_89 ?_
      refine g_callS3i (c_X4_held) mi_X4_held ms_X4_held ml_X4_104 dX4_goes_80 (by decide) (Nat.le_of_ble_eq_true rfl) (Nat.le_of_ble_eq_true rfl) ?_
      refine g_iast0 0 dX4_goes_83 rfl rfl (by decide) ?_
      exact g_return dX4_goes_84 rfl (by first | (rw [up_setg, dayM_no (by rw [eM]; rintro ⟨x1, x2, x3⟩; simp_all [bI_0])]) | (rw [up_setg, setg_s, setg_2, eatR_lo _ _ _ (by decide), ← eM, dayM_yes (by rw [eM]; refine ⟨?_, ?_, ?_⟩ <;> simp_all [bI_0])]))
    · refine g_aload_n dX4_goes_39 rfl ?_
      refine g_iload_n dX4_goes_40 rfl ?_
      refine g_bipush dX4_goes_41 bp_10 ?_
      refine g_irem dX4_goes_43 (by decide) ?_
      refine g_st (st2 := [.int (nI (q % 10)), .ref 28]) (by rw [rem10 (by omega)]) ?_
      refine g_iconst dX4_goes_44 ic_5 ?_
      refine g_callV2i (c_X4_it (w := 5) h8 (by decide)) mi_X4_it mv_X4_it ml_X4_48 dX4_goes_45 rfl rfl (by decide) (Nat.le_of_ble_eq_true rfl) (Nat.le_of_ble_eq_true rfl) ?_
      refine g_if_ne 64 dX4_goes_48 (by decide) (fun c48 => ?_) (fun c48 => ?_)
      · refine g_aload_n dX4_goes_64 rfl ?_
        refine g_getR dX4_goes_65 fl_X4_9 rfl rfl ?_
        refine g_iconst dX4_goes_68 ic_0 ?_
        refine g_aload_n dX4_goes_69 rfl ?_
        refine g_getR dX4_goes_70 fl_X4_9 rfl rfl ?_
        refine g_iconst dX4_goes_73 ic_0 ?_
        refine g_iald0 0 dX4_goes_74 rfl rfl (by decide) ?_
        refine g_iconst dX4_goes_75 ic_1 ?_
        refine g_iadd dX4_goes_76 ?_
        refine g_iconst dX4_goes_77 ic_0 ?_
        refine g_ldc dX4_goes_78 lc_X4_89 ?_
        refine g_callS3i (c_X4_held) mi_X4_held ms_X4_held ml_X4_104 dX4_goes_80 (by decide) (Nat.le_of_ble_eq_true rfl) (Nat.le_of_ble_eq_true rfl) ?_
        refine g_iast0 0 dX4_goes_83 rfl rfl (by decide) ?_
        exact g_return dX4_goes_84 rfl (by first | (rw [up_setg, dayM_no (by rw [eM]; rintro ⟨x1, x2, x3⟩; simp_all [bI_0])]) | (rw [up_setg, setg_s, setg_2, eatR_lo _ _ _ (by decide), ← eM, dayM_yes (by rw [eM]; refine ⟨?_, ?_, ?_⟩ <;> simp_all [bI_0])]))
      · refine g_aload_n dX4_goes_51 rfl ?_
        refine g_iload_n dX4_goes_52 rfl ?_
        refine g_bipush dX4_goes_53 bp_10 ?_
        refine g_idiv dX4_goes_55 (by decide) ?_
        refine g_st (st2 := [.int (nI (q / 10)), .ref 28]) (by rw [div10 (by omega)]) ?_
        refine g_iload_n dX4_goes_56 rfl ?_
        refine g_bipush dX4_goes_57 bp_10 ?_
        refine g_irem dX4_goes_59 (by decide) ?_
        refine g_st (st2 := [.int (nI (q % 10)), .int (nI (q / 10)), .ref 28]) (by rw [rem10 (by omega)]) ?_
        refine g_callV2i (c_X4_eats hI h6 h8) mi_X4_eats mv_X4_eats ml_X4_108 dX4_goes_60 rfl rfl (by decide) (Nat.le_of_ble_eq_true rfl) (Nat.le_of_ble_eq_true rfl) ?_
        refine g_istore_n dX4_goes_63 (by decide) rfl ?_
        refine g_aload_n dX4_goes_64 rfl ?_
        refine g_getR dX4_goes_65 fl_X4_9 rfl rfl ?_
        refine g_iconst dX4_goes_68 ic_0 ?_
        refine g_aload_n dX4_goes_69 rfl ?_
        refine g_getR dX4_goes_70 fl_X4_9 rfl rfl ?_
        refine g_iconst dX4_goes_73 ic_0 ?_
        refine g_iald0 0 dX4_goes_74 rfl rfl (by decide) ?_
        refine g_iconst dX4_goes_75 ic_1 ?_
        refine g_iadd dX4_goes_76 ?_
        refine g_iconst dX4_goes_77 ic_0 ?_
        refine g_ldc dX4_goes_78 lc_X4_89 ?_
        refine g_callS3i (c_X4_held) mi_X4_held ms_X4_held ml_X4_104 dX4_goes_80 (by decide) (Nat.le_of_ble_eq_true rfl) (Nat.le_of_ble_eq_true rfl) ?_
        refine g_iast0 0 dX4_goes_83 rfl rfl (by decide) ?_
        exact g_return dX4_goes_84 rfl (by first | (rw [up_setg, dayM_no (by rw [eM]; rintro ⟨x1, x2, x3⟩; simp_all [bI_0])]) | (rw [up_setg, setg_s, setg_2, eatR_lo _ _ _ (by decide), ← eM, dayM_yes (by rw [eM]; refine ⟨?_, ?_, ?_⟩ <;> simp_all [bI_0])]))

set_option maxRecDepth 100000 in
set_option maxHeartbeats 4000000 in
theorem l_X4_goesFor {X : Sc} {h : Hp} (hI : In (h 11)) {n : Nat} (hn : n < 2 ^ 31) : ∀ k, k ≤ n → Go X RX4 cX4_goesFor 3 5 2 [.ref 28, .int (nI n), .int (nI k)] [] (setg h 11 (daysR (h 11) k)) none (setg h 11 (daysR (h 11) n)) := by
  refine loop_up (n) ?_ ?_
  · refine g_iload_n dX4_goesFor_2 rfl ?_
    refine g_iload_n dX4_goesFor_3 rfl ?_
    refine g_icmp_ge 17 dX4_goesFor_4 (by decide) (fun c4 => ?_) (fun c4 => ?_)
    · exact g_return dX4_goesFor_17 rfl rfl
    · exact (lp_yes ((rfl : nI n = nI n)) (by omega) c4).elim
  · intro k hk ih
    refine g_iload_n dX4_goesFor_2 rfl ?_
    refine g_iload_n dX4_goesFor_3 rfl ?_
    refine g_icmp_ge 17 dX4_goesFor_4 (by decide) (fun c4 => ?_) (fun c4 => ?_)
    · exact (lp_no ((rfl : nI n = nI n)) (by omega) hk c4).elim
    · refine g_aload_n dX4_goesFor_7 rfl ?_
      refine g_callV0v (c_X4_goes (by rw [setg_s]; exact hI.days k)) mi_X4_goes mv_X4_goes ml_X4_111 dX4_goesFor_8 rfl rfl (by decide) (Nat.le_of_ble_eq_true rfl) (Nat.le_of_ble_eq_true rfl) ?_
      refine g_iinc dX4_goesFor_11 rfl (ii_n _) (by decide) rfl ?_
      refine g_goto 2 dX4_goesFor_14 (by decide) ?_
      exact g_h (by rw [setg_s, setg_2]; rfl) ih

set_option maxRecDepth 100000 in
set_option maxHeartbeats 4000000 in
theorem c_X4_goesFor {X : Sc} {h : Hp} (hI : In (h 11)) {n : Nat} (hn : n < 2 ^ 31) : Ct X yX4_goesFor cX4_goesFor 3 none 5 [.ref 28, .int (nI n)] h none (setg h 11 (daysR (h 11) n)) := by
  refine ⟨trivial, ?_⟩
  refine g_iconst dX4_goesFor_0 ic_0 ?_
  refine g_istore_n dX4_goesFor_1 (by decide) rfl ?_
  exact g_h (setg_id h 11).symm (l_X4_goesFor hI hn 0 (Nat.zero_le _))

set_option maxRecDepth 100000 in
set_option maxHeartbeats 4000000 in
theorem l_X4_bills {X : Sc} {h : Hp} (hI : In (h 11)) : ∀ k, k ≤ nG (h 11) → Go X RX4 cX4_bills 3 2 4 [.ref 28, .int (bilS (h 11) k), .int (nI k)] [] h (some (.int (bilS (h 11) (nG (h 11))))) h := by
  have hN := hI.nG.1
  refine loop_up (nG (h 11)) ?_ ?_
  · refine g_iload_n dX4_bills_4 rfl ?_
    refine g_aload_n dX4_bills_5 rfl ?_
    refine g_getR dX4_bills_6 fl_X4_9 rfl rfl ?_
    refine g_iconst dX4_bills_9 ic_3 ?_
    refine g_iald0 3 dX4_bills_10 rfl rfl (by decide) ?_
    refine g_icmp_ge 29 dX4_bills_11 (by decide) (fun c11 => ?_) (fun c11 => ?_)
    · refine g_iload_n dX4_bills_29 rfl ?_
      exact g_ireturn dX4_bills_30 rfl rfl
    · exact (lp_yes (hI.nG.2) (by omega) c11).elim
  · intro k hk ih
    refine g_iload_n dX4_bills_4 rfl ?_
    refine g_aload_n dX4_bills_5 rfl ?_
    refine g_getR dX4_bills_6 fl_X4_9 rfl rfl ?_
    refine g_iconst dX4_bills_9 ic_3 ?_
    refine g_iald0 3 dX4_bills_10 rfl rfl (by decide) ?_
    refine g_icmp_ge 29 dX4_bills_11 (by decide) (fun c11 => ?_) (fun c11 => ?_)
    · exact (lp_no (hI.nG.2) (by omega) hk c11).elim
    · refine g_iload_n dX4_bills_14 rfl ?_
      refine g_aload_n dX4_bills_15 rfl ?_
      refine g_iload_n dX4_bills_16 rfl ?_
      refine g_iconst dX4_bills_17 ic_2 ?_
      refine g_callV2i (c_X4_his (w := 2) (by omega) (by decide)) mi_X4_his mv_X4_his ml_X4_44 dX4_bills_18 rfl rfl (by decide) (Nat.le_of_ble_eq_true rfl) (Nat.le_of_ble_eq_true rfl) ?_
      refine g_iadd dX4_bills_21 ?_
      refine g_istore_n dX4_bills_22 (by decide) rfl ?_
      refine g_iinc dX4_bills_23 rfl (ii_n _) (by decide) rfl ?_
      refine g_goto 4 dX4_bills_26 (by decide) ?_
      exact ih

set_option maxRecDepth 100000 in
set_option maxHeartbeats 4000000 in
theorem c_X4_bills {X : Sc} {h : Hp} (hI : In (h 11)) : Ct X yX4_bills cX4_bills 3 (some .int) 2 [.ref 28] h (some (.int (bilS (h 11) (nG (h 11))))) h := by
  refine ⟨rfl, ?_⟩
  refine g_iconst dX4_bills_0 ic_0 ?_
  refine g_istore_n dX4_bills_1 (by decide) rfl ?_
  refine g_iconst dX4_bills_2 ic_0 ?_
  refine g_istore_n dX4_bills_3 (by decide) rfl ?_
  exact l_X4_bills hI 0 (Nat.zero_le _)

set_option maxRecDepth 100000 in
set_option maxHeartbeats 4000000 in
theorem l_X4_aims {X : Sc} {h : Hp} (hI : In (h 11)) : ∀ k, k ≤ nG (h 11) → Go X RX4 cX4_aims 3 2 4 [.ref 28, .int (aimS (h 11) k), .int (nI k)] [] h (some (.int (aimS (h 11) (nG (h 11))))) h := by
  have hN := hI.nG.1
  refine loop_up (nG (h 11)) ?_ ?_
  · refine g_iload_n dX4_aims_4 rfl ?_
    refine g_aload_n dX4_aims_5 rfl ?_
    refine g_getR dX4_aims_6 fl_X4_9 rfl rfl ?_
    refine g_iconst dX4_aims_9 ic_3 ?_
    refine g_iald0 3 dX4_aims_10 rfl rfl (by decide) ?_
    refine g_icmp_ge 31 dX4_aims_11 (by decide) (fun c11 => ?_) (fun c11 => ?_)
    · refine g_iload_n dX4_aims_31 rfl ?_
      exact g_ireturn dX4_aims_32 rfl rfl
    · exact (lp_yes (hI.nG.2) (by omega) c11).elim
  · intro k hk ih
    refine g_iload_n dX4_aims_4 rfl ?_
    refine g_aload_n dX4_aims_5 rfl ?_
    refine g_getR dX4_aims_6 fl_X4_9 rfl rfl ?_
    refine g_iconst dX4_aims_9 ic_3 ?_
    refine g_iald0 3 dX4_aims_10 rfl rfl (by decide) ?_
    refine g_icmp_ge 31 dX4_aims_11 (by decide) (fun c11 => ?_) (fun c11 => ?_)
    · exact (lp_no (hI.nG.2) (by omega) hk c11).elim
    · refine g_iload_n dX4_aims_14 rfl ?_
      refine g_iconst dX4_aims_15 ic_1 ?_
      refine g_aload_n dX4_aims_16 rfl ?_
      refine g_iload_n dX4_aims_17 rfl ?_
      refine g_iconst dX4_aims_18 ic_1 ?_
      refine g_callV2i (c_X4_his (w := 1) (by omega) (by decide)) mi_X4_his mv_X4_his ml_X4_44 dX4_aims_19 rfl rfl (by decide) (Nat.le_of_ble_eq_true rfl) (Nat.le_of_ble_eq_true rfl) ?_
      refine g_ishl dX4_aims_22 ?_
      refine g_ior dX4_aims_23 ?_
      refine g_istore_n dX4_aims_24 (by decide) rfl ?_
      refine g_iinc dX4_aims_25 rfl (ii_n _) (by decide) rfl ?_
      refine g_goto 4 dX4_aims_28 (by decide) ?_
      exact ih

set_option maxRecDepth 100000 in
set_option maxHeartbeats 4000000 in
theorem c_X4_aims {X : Sc} {h : Hp} (hI : In (h 11)) : Ct X yX4_aims cX4_aims 3 (some .int) 2 [.ref 28] h (some (.int (aimS (h 11) (nG (h 11))))) h := by
  refine ⟨rfl, ?_⟩
  refine g_iconst dX4_aims_0 ic_0 ?_
  refine g_istore_n dX4_aims_1 (by decide) rfl ?_
  refine g_iconst dX4_aims_2 ic_0 ?_
  refine g_istore_n dX4_aims_3 (by decide) rfl ?_
  exact l_X4_aims hI 0 (Nat.zero_le _)

set_option maxRecDepth 100000 in
set_option maxHeartbeats 4000000 in
theorem l_X4_allBeen {X : Sc} {h : Hp} (hI : In (h 11)) : ∀ k, k ≤ nG (h 11) → Go X RX4 cX4_allBeen 3 2 4 [.ref 28, .int (ben2 (h 11) k), .int (nI k)] [] h (some (.int (ben2 (h 11) (nG (h 11))))) h := by
  have hN := hI.nG.1
  refine loop_up (nG (h 11)) ?_ ?_
  · refine g_iload_n dX4_allBeen_4 rfl ?_
    refine g_aload_n dX4_allBeen_5 rfl ?_
    refine g_getR dX4_allBeen_6 fl_X4_9 rfl rfl ?_
    refine g_iconst dX4_allBeen_9 ic_3 ?_
    refine g_iald0 3 dX4_allBeen_10 rfl rfl (by decide) ?_
    refine g_icmp_ge 29 dX4_allBeen_11 (by decide) (fun c11 => ?_) (fun c11 => ?_)
    · refine g_iload_n dX4_allBeen_29 rfl ?_
      exact g_ireturn dX4_allBeen_30 rfl rfl
    · exact (lp_yes (hI.nG.2) (by omega) c11).elim
  · intro k hk ih
    refine g_iload_n dX4_allBeen_4 rfl ?_
    refine g_aload_n dX4_allBeen_5 rfl ?_
    refine g_getR dX4_allBeen_6 fl_X4_9 rfl rfl ?_
    refine g_iconst dX4_allBeen_9 ic_3 ?_
    refine g_iald0 3 dX4_allBeen_10 rfl rfl (by decide) ?_
    refine g_icmp_ge 29 dX4_allBeen_11 (by decide) (fun c11 => ?_) (fun c11 => ?_)
    · exact (lp_no (hI.nG.2) (by omega) hk c11).elim
    · refine g_iload_n dX4_allBeen_14 rfl ?_
      refine g_aload_n dX4_allBeen_15 rfl ?_
      refine g_iload_n dX4_allBeen_16 rfl ?_
      refine g_iconst dX4_allBeen_17 ic_3 ?_
      refine g_callV2i (c_X4_his (w := 3) (by omega) (by decide)) mi_X4_his mv_X4_his ml_X4_44 dX4_allBeen_18 rfl rfl (by decide) (Nat.le_of_ble_eq_true rfl) (Nat.le_of_ble_eq_true rfl) ?_
      refine g_ior dX4_allBeen_21 ?_
      refine g_istore_n dX4_allBeen_22 (by decide) rfl ?_
      refine g_iinc dX4_allBeen_23 rfl (ii_n _) (by decide) rfl ?_
      refine g_goto 4 dX4_allBeen_26 (by decide) ?_
      exact ih

set_option maxRecDepth 100000 in
set_option maxHeartbeats 4000000 in
theorem c_X4_allBeen {X : Sc} {h : Hp} (hI : In (h 11)) : Ct X yX4_allBeen cX4_allBeen 3 (some .int) 2 [.ref 28] h (some (.int (ben2 (h 11) (nG (h 11))))) h := by
  refine ⟨rfl, ?_⟩
  refine g_iconst dX4_allBeen_0 ic_0 ?_
  refine g_istore_n dX4_allBeen_1 (by decide) rfl ?_
  refine g_iconst dX4_allBeen_2 ic_0 ?_
  refine g_istore_n dX4_allBeen_3 (by decide) rfl ?_
  exact l_X4_allBeen hI 0 (Nat.zero_le _)

set_option maxRecDepth 100000 in
set_option maxHeartbeats 4000000 in
theorem l_X4_allServed {X : Sc} {h : Hp} (hI : In (h 11)) : ∀ k, k ≤ nD (h 11) → Go X RX4 cX4_allServed 3 2 4 [.ref 28, .int (srvS (h 11) k), .int (nI k)] [] h (some (.int (srvS (h 11) (nD (h 11))))) h := by
  have hN := hI.nD.1
  refine loop_up (nD (h 11)) ?_ ?_
  · refine g_iload_n dX4_allServed_4 rfl ?_
    refine g_aload_n dX4_allServed_5 rfl ?_
    refine g_getR dX4_allServed_6 fl_X4_9 rfl rfl ?_
    refine g_iconst dX4_allServed_9 ic_2 ?_
    refine g_iald0 2 dX4_allServed_10 rfl rfl (by decide) ?_
    refine g_icmp_ge 29 dX4_allServed_11 (by decide) (fun c11 => ?_) (fun c11 => ?_)
    · refine g_iload_n dX4_allServed_29 rfl ?_
      exact g_ireturn dX4_allServed_30 rfl rfl
    · exact (lp_yes (hI.nD.2) (by omega) c11).elim
  · intro k hk ih
    refine g_iload_n dX4_allServed_4 rfl ?_
    refine g_aload_n dX4_allServed_5 rfl ?_
    refine g_getR dX4_allServed_6 fl_X4_9 rfl rfl ?_
    refine g_iconst dX4_allServed_9 ic_2 ?_
    refine g_iald0 2 dX4_allServed_10 rfl rfl (by decide) ?_
    refine g_icmp_ge 29 dX4_allServed_11 (by decide) (fun c11 => ?_) (fun c11 => ?_)
    · exact (lp_no (hI.nD.2) (by omega) hk c11).elim
    · refine g_iload_n dX4_allServed_14 rfl ?_
      refine g_aload_n dX4_allServed_15 rfl ?_
      refine g_iload_n dX4_allServed_16 rfl ?_
      refine g_iconst dX4_allServed_17 ic_4 ?_
      refine g_callV2i (c_X4_it (w := 4) (by omega) (by decide)) mi_X4_it mv_X4_it ml_X4_48 dX4_allServed_18 rfl rfl (by decide) (Nat.le_of_ble_eq_true rfl) (Nat.le_of_ble_eq_true rfl) ?_
      refine g_iadd dX4_allServed_21 ?_
      refine g_istore_n dX4_allServed_22 (by decide) rfl ?_
      refine g_iinc dX4_allServed_23 rfl (ii_n _) (by decide) rfl ?_
      refine g_goto 4 dX4_allServed_26 (by decide) ?_
      exact ih

set_option maxRecDepth 100000 in
set_option maxHeartbeats 4000000 in
theorem c_X4_allServed {X : Sc} {h : Hp} (hI : In (h 11)) : Ct X yX4_allServed cX4_allServed 3 (some .int) 2 [.ref 28] h (some (.int (srvS (h 11) (nD (h 11))))) h := by
  refine ⟨rfl, ?_⟩
  refine g_iconst dX4_allServed_0 ic_0 ?_
  refine g_istore_n dX4_allServed_1 (by decide) rfl ?_
  refine g_iconst dX4_allServed_2 ic_0 ?_
  refine g_istore_n dX4_allServed_3 (by decide) rfl ?_
  exact l_X4_allServed hI 0 (Nat.zero_le _)

set_option maxRecDepth 100000 in
set_option maxHeartbeats 4000000 in
theorem l_X4_onCard {X : Sc} {h : Hp} (hI : In (h 11)) : ∀ k, k ≤ nD (h 11) → Go X RX4 cX4_onCard 3 2 4 [.ref 28, .int (crdS (h 11) k), .int (nI k)] [] h (some (.int (crdS (h 11) (nD (h 11))))) h := by
  have hN := hI.nD.1
  refine loop_up (nD (h 11)) ?_ ?_
  · refine g_iload_n dX4_onCard_4 rfl ?_
    refine g_aload_n dX4_onCard_5 rfl ?_
    refine g_getR dX4_onCard_6 fl_X4_9 rfl rfl ?_
    refine g_iconst dX4_onCard_9 ic_2 ?_
    refine g_iald0 2 dX4_onCard_10 rfl rfl (by decide) ?_
    refine g_icmp_ge 39 dX4_onCard_11 (by decide) (fun c11 => ?_) (fun c11 => ?_)
    · refine g_iload_n dX4_onCard_39 rfl ?_
      exact g_ireturn dX4_onCard_40 rfl rfl
    · exact (lp_yes (hI.nD.2) (by omega) c11).elim
  · intro k hk ih
    refine g_iload_n dX4_onCard_4 rfl ?_
    refine g_aload_n dX4_onCard_5 rfl ?_
    refine g_getR dX4_onCard_6 fl_X4_9 rfl rfl ?_
    refine g_iconst dX4_onCard_9 ic_2 ?_
    refine g_iald0 2 dX4_onCard_10 rfl rfl (by decide) ?_
    refine g_icmp_ge 39 dX4_onCard_11 (by decide) (fun c11 => ?_) (fun c11 => ?_)
    · exact (lp_no (hI.nD.2) (by omega) hk c11).elim
    · refine g_iload_n dX4_onCard_14 rfl ?_
      refine g_aload_n dX4_onCard_15 rfl ?_
      refine g_iload_n dX4_onCard_16 rfl ?_
      refine g_iconst dX4_onCard_17 ic_5 ?_
      refine g_callV2i (c_X4_it (w := 5) (by omega) (by decide)) mi_X4_it mv_X4_it ml_X4_48 dX4_onCard_18 rfl rfl (by decide) (Nat.le_of_ble_eq_true rfl) (Nat.le_of_ble_eq_true rfl) ?_
      refine g_if_ne 30 dX4_onCard_21 (by decide) (fun c21 => ?_) (fun c21 => ?_)
      · refine g_iconst dX4_onCard_30 ic_0 ?_
        refine g_ior dX4_onCard_31 ?_
        refine g_istore_n dX4_onCard_32 (by decide) rfl ?_
        refine g_iinc dX4_onCard_33 rfl (ii_n _) (by decide) rfl ?_
        refine g_goto 4 dX4_onCard_36 (by decide) ?_
        have o5 := hI.off (d := k) (by omega)
        exact g_lv (by rcases o5 with o5 | o5 <;> simp_all [crdS]) ih
      · refine g_iconst dX4_onCard_24 ic_1 ?_
        refine g_iload_n dX4_onCard_25 rfl ?_
        refine g_ishl dX4_onCard_26 ?_
        refine g_goto 31 dX4_onCard_27 (by decide) ?_
        refine g_ior dX4_onCard_31 ?_
        refine g_istore_n dX4_onCard_32 (by decide) rfl ?_
        refine g_iinc dX4_onCard_33 rfl (ii_n _) (by decide) rfl ?_
        refine g_goto 4 dX4_onCard_36 (by decide) ?_
        have o5 := hI.off (d := k) (by omega)
        exact g_lv (by rcases o5 with o5 | o5 <;> simp_all [crdS]) ih

set_option maxRecDepth 100000 in
set_option maxHeartbeats 4000000 in
theorem c_X4_onCard {X : Sc} {h : Hp} (hI : In (h 11)) : Ct X yX4_onCard cX4_onCard 3 (some .int) 2 [.ref 28] h (some (.int (crdS (h 11) (nD (h 11))))) h := by
  refine ⟨rfl, ?_⟩
  refine g_iconst dX4_onCard_0 ic_0 ?_
  refine g_istore_n dX4_onCard_1 (by decide) rfl ?_
  refine g_iconst dX4_onCard_2 ic_0 ?_
  refine g_istore_n dX4_onCard_3 (by decide) rfl ?_
  exact l_X4_onCard hI 0 (Nat.zero_le _)

theorem deb_inv {m : Rw} (h : In m) : ∀ k, k ≤ 6 → (k = 0 ∧ debG m k = (-1, -1)) ∨ ∃ j, j < k ∧ debG m k = (nI j, gF m j 2)
  | 0, _ => Or.inl ⟨rfl, rfl⟩
  | k + 1, hk => by
    refine Or.inr ?_
    unfold debG
    rcases deb_inv h k (by omega) with ⟨q1, q2⟩ | ⟨j, q1, q2⟩
    · rw [q2]
      obtain ⟨x, hx, e⟩ := h.g (g := k) (by omega) (w := 2) (by decide)
      have hx : x ≤ 99999 := hx
      refine ⟨k, by omega, if_neg ?_⟩
      rw [e]
      intro c
      exact absurd (Int32.le_trans (nI_pos' (n := x) (by omega)) c) (by decide)
    · rw [q2]
      by_cases c : gF m k 2 ≤ gF m j 2
      · exact ⟨j, by omega, by rw [if_pos c]⟩
      · exact ⟨k, by omega, by rw [if_neg c]⟩
theorem deb_step0 {m : Rw} (h : In m) {k : Nat} (hk : k < 6) (c : (debG m k).1 < 0) : debG m (k + 1) = (nI k, gF m k 2) := by
  rcases deb_inv h k (by omega) with ⟨q1, q2⟩ | ⟨j, q1, q2⟩
  · subst q1
    rcases deb_inv h 1 (by omega) with ⟨q3, _⟩ | ⟨j, q3, q4⟩
    · cases q3
    · rw [show j = 0 by omega] at q4
      exact q4
  · rw [q2] at c
    exact absurd c (nI_pos (by omega))
theorem deb_at {m : Rw} (h : In m) {k : Nat} (hk : k < 6) (c : ¬ (debG m k).1 < 0) : ∃ j, j < 6 ∧ debG m k = (nI j, gF m j 2) := by
  rcases deb_inv h k (by omega) with ⟨q1, q2⟩ | ⟨j, q1, q2⟩
  · rw [q2] at c; exact absurd (by decide) c
  · exact ⟨j, by omega, q2⟩
set_option maxRecDepth 100000 in
set_option maxHeartbeats 4000000 in
theorem l_X4_debtor {X : Sc} {h : Hp} (hI : In (h 11)) : ∀ k, k ≤ nG (h 11) → Go X RX4 cX4_debtor 3 1 4 [.ref 28, .int (debG (h 11) k).1, .int (nI k)] [] h (some (.int (debG (h 11) (nG (h 11))).1)) h := by
  have hN := hI.nG.1
  refine loop_up (nG (h 11)) ?_ ?_
  · refine g_iload_n dX4_debtor_4 rfl ?_
    refine g_aload_n dX4_debtor_5 rfl ?_
    refine g_getR dX4_debtor_6 fl_X4_9 rfl rfl ?_
    refine g_iconst dX4_debtor_9 ic_3 ?_
    refine g_iald0 3 dX4_debtor_10 rfl rfl (by decide) ?_
    refine g_icmp_ge 45 dX4_debtor_11 (by decide) (fun c11 => ?_) (fun c11 => ?_)
    · refine g_iload_n dX4_debtor_45 rfl ?_
      exact g_ireturn dX4_debtor_46 rfl rfl
    · exact (lp_yes (hI.nG.2) (by omega) c11).elim
  · intro k hk ih
    refine g_iload_n dX4_debtor_4 rfl ?_
    refine g_aload_n dX4_debtor_5 rfl ?_
    refine g_getR dX4_debtor_6 fl_X4_9 rfl rfl ?_
    refine g_iconst dX4_debtor_9 ic_3 ?_
    refine g_iald0 3 dX4_debtor_10 rfl rfl (by decide) ?_
    refine g_icmp_ge 45 dX4_debtor_11 (by decide) (fun c11 => ?_) (fun c11 => ?_)
    · exact (lp_no (hI.nG.2) (by omega) hk c11).elim
    · refine g_iload_n dX4_debtor_14 rfl ?_
      refine g_if_lt 33 dX4_debtor_15 (by decide) (fun c15 => ?_) (fun c15 => ?_)
      · refine g_iload_n dX4_debtor_33 rfl ?_
        refine g_goto 38 dX4_debtor_34 (by decide) ?_
        refine g_istore_n dX4_debtor_38 (by decide) rfl ?_
        refine g_iinc dX4_debtor_39 rfl (ii_n _) (by decide) rfl ?_
        refine g_goto 4 dX4_debtor_42 (by decide) ?_
        exact g_lv (by first | (rw [deb_step0 hI (show k < 6 by omega) c15]; rfl) | (rw [debG, ej, if_pos c30]; rfl) | (rw [debG, ej, if_neg c30]; rfl)) ih
      · obtain ⟨j, hj, ej⟩ := deb_at hI (show k < 6 by omega) c15
        refine g_aload_n dX4_debtor_18 rfl ?_
        refine g_iload_n dX4_debtor_19 rfl ?_
        refine g_iconst dX4_debtor_20 ic_2 ?_
        refine g_callV2i (c_X4_his (e := k) (w := 2) (by omega) (by decide)) mi_X4_his mv_X4_his ml_X4_44 dX4_debtor_21 rfl rfl (by decide) (Nat.le_of_ble_eq_true rfl) (Nat.le_of_ble_eq_true rfl) ?_
        refine g_aload_n dX4_debtor_24 rfl ?_
        refine g_iload_n dX4_debtor_25 rfl ?_
        refine g_st (st2 := [.int (nI j), .ref 28, .int (gF (h 11) k 2)]) (by rw [ej]) ?_
        refine g_iconst dX4_debtor_26 ic_2 ?_
        refine g_callV2i (c_X4_his (e := j) (w := 2) hj (by decide)) mi_X4_his mv_X4_his ml_X4_44 dX4_debtor_27 rfl rfl (by decide) (Nat.le_of_ble_eq_true rfl) (Nat.le_of_ble_eq_true rfl) ?_
        refine g_icmp_le 37 dX4_debtor_30 (by decide) (fun c30 => ?_) (fun c30 => ?_)
        · refine g_iload_n dX4_debtor_37 rfl ?_
          refine g_istore_n dX4_debtor_38 (by decide) rfl ?_
          refine g_iinc dX4_debtor_39 rfl (ii_n _) (by decide) rfl ?_
          refine g_goto 4 dX4_debtor_42 (by decide) ?_
          exact g_lv (by first | (rw [deb_step0 hI (show k < 6 by omega) c15]; rfl) | (rw [debG, ej, if_pos c30]; rfl) | (rw [debG, ej, if_neg c30]; rfl)) ih
        · refine g_iload_n dX4_debtor_33 rfl ?_
          refine g_goto 38 dX4_debtor_34 (by decide) ?_
          refine g_istore_n dX4_debtor_38 (by decide) rfl ?_
          refine g_iinc dX4_debtor_39 rfl (ii_n _) (by decide) rfl ?_
          refine g_goto 4 dX4_debtor_42 (by decide) ?_
          exact g_lv (by first | (rw [deb_step0 hI (show k < 6 by omega) c15]; rfl) | (rw [debG, ej, if_pos c30]; rfl) | (rw [debG, ej, if_neg c30]; rfl)) ih

set_option maxRecDepth 100000 in
set_option maxHeartbeats 4000000 in
theorem c_X4_debtor {X : Sc} {h : Hp} (hI : In (h 11)) : Ct X yX4_debtor cX4_debtor 3 (some .int) 1 [.ref 28] h (some (.int (debG (h 11) (nG (h 11))).1)) h := by
  refine ⟨rfl, ?_⟩
  refine g_iconst dX4_debtor_0 ic_m1 ?_
  refine g_istore_n dX4_debtor_1 (by decide) rfl ?_
  refine g_iconst dX4_debtor_2 ic_0 ?_
  refine g_istore_n dX4_debtor_3 (by decide) rfl ?_
  exact l_X4_debtor hI 0 (Nat.zero_le _)

/-- of the first n, how many are for another town than g -/
def parJ (m : Rw) (g : Nat) : Nat → Nat
  | 0 => 0
  | n + 1 => if gF m g 1 = gF m n 1 then parJ m g n else parJ m g n + 1
def parM (m : Rw) : Nat → Nat
  | 0 => 0
  | n + 1 => parM m n + parJ m n n
def dfr (m : Rw) (a b : Nat) : Nat := if gF m a 1 = gF m b 1 then 0 else 1
theorem dfr_c (m : Rw) (a b : Nat) : dfr m a b = dfr m b a := by
  unfold dfr
  by_cases c : gF m a 1 = gF m b 1
  · rw [if_pos c, if_pos c.symm]
  · rw [if_neg c, if_neg (fun q => c q.symm)]
theorem parI_s (m : Rw) (a n : Nat) : parI m a (n + 1) = parI m a n + (if a < n then dfr m a n else 0) := by
  rw [parI]
  unfold dfr
  by_cases c : a < n
  · by_cases q : gF m a 1 = gF m n 1
    · rw [if_neg (fun z => z.2 q), if_pos c, if_pos q]; rfl
    · rw [if_pos ⟨c, q⟩, if_pos c, if_neg q]
  · rw [if_neg (fun z => c z.1), if_neg c]; rfl
theorem parJ_s (m : Rw) (a n : Nat) : parJ m a (n + 1) = parJ m a n + dfr m a n := by
  rw [parJ]
  unfold dfr
  by_cases q : gF m a 1 = gF m n 1
  · rw [if_pos q, if_pos q]; rfl
  · rw [if_neg q, if_neg q]
theorem par_all (m : Rw) : ∀ G, G ≤ 6 → parO m G G = parM m G := by
  intro G hG
  have s10 := dfr_c m 1 0
  have s20 := dfr_c m 2 0
  have s21 := dfr_c m 2 1
  have s30 := dfr_c m 3 0
  have s31 := dfr_c m 3 1
  have s32 := dfr_c m 3 2
  have s40 := dfr_c m 4 0
  have s41 := dfr_c m 4 1
  have s42 := dfr_c m 4 2
  have s43 := dfr_c m 4 3
  have s50 := dfr_c m 5 0
  have s51 := dfr_c m 5 1
  have s52 := dfr_c m 5 2
  have s53 := dfr_c m 5 3
  have s54 := dfr_c m 5 4
  have z0 : ∀ a, parI m a 0 = 0 := fun _ => rfl
  have z1 : ∀ a, parJ m a 0 = 0 := fun _ => rfl
  match G, hG with
  | 0, _ => simp [parO, parM, parI_s, parJ_s, z0, z1]
  | 1, _ => simp [parO, parM, parI_s, parJ_s, z0, z1]
  | 2, _ => simp [parO, parM, parI_s, parJ_s, z0, z1]; omega
  | 3, _ => simp [parO, parM, parI_s, parJ_s, z0, z1]; omega
  | 4, _ => simp [parO, parM, parI_s, parJ_s, z0, z1]; omega
  | 5, _ => simp [parO, parM, parI_s, parJ_s, z0, z1]; omega
  | 6, _ => simp [parO, parM, parI_s, parJ_s, z0, z1]; omega
  | n + 7, h => exact absurd h (by omega)
set_option maxRecDepth 100000 in
set_option maxHeartbeats 4000000 in
theorem i_X4_pairsApart {X : Sc} {h : Hp} (hI : In (h 11)) {a p0 : Nat} (ha : a < 6) {r : Option Value} (K : Go X RX4 cX4_pairsApart 4 1 50 [.ref 28, .int (nI (p0 + parJ (h 11) a a)), .int (nI a), .int (nI a)] [] h r h) : ∀ k, k ≤ a → Go X RX4 cX4_pairsApart 4 1 16 [.ref 28, .int (nI (p0 + parJ (h 11) a k)), .int (nI a), .int (nI k)] [] h r h := by
  refine loop_up (a) ?_ ?_
  · refine g_iload_n dX4_pairsApart_16 rfl ?_
    refine g_iload_n dX4_pairsApart_17 rfl ?_
    refine g_icmp_ge 50 dX4_pairsApart_18 (by decide) (fun c18 => ?_) (fun c18 => ?_)
    · exact K
    · exact (lp_yes ((rfl : nI a = nI a)) (by omega) c18).elim
  · intro k hk ih
    refine g_iload_n dX4_pairsApart_16 rfl ?_
    refine g_iload_n dX4_pairsApart_17 rfl ?_
    refine g_icmp_ge 50 dX4_pairsApart_18 (by decide) (fun c18 => ?_) (fun c18 => ?_)
    · exact (lp_no ((rfl : nI a = nI a)) (by omega) hk c18).elim
    · refine g_iload_n dX4_pairsApart_21 rfl ?_
      refine g_aload_n dX4_pairsApart_22 rfl ?_
      refine g_iload_n dX4_pairsApart_23 rfl ?_
      refine g_iconst dX4_pairsApart_24 ic_1 ?_
      refine g_callV2i (c_X4_his (e := a) (w := 1) ha (by decide)) mi_X4_his mv_X4_his ml_X4_44 dX4_pairsApart_25 rfl rfl (by decide) (Nat.le_of_ble_eq_true rfl) (Nat.le_of_ble_eq_true rfl) ?_
      refine g_aload_n dX4_pairsApart_28 rfl ?_
      refine g_iload_n dX4_pairsApart_29 rfl ?_
      refine g_iconst dX4_pairsApart_30 ic_1 ?_
      refine g_callV2i (c_X4_his (e := k) (w := 1) (by omega) (by decide)) mi_X4_his mv_X4_his ml_X4_44 dX4_pairsApart_31 rfl rfl (by decide) (Nat.le_of_ble_eq_true rfl) (Nat.le_of_ble_eq_true rfl) ?_
      refine g_icmp_eq 41 dX4_pairsApart_34 (by decide) (fun c34 => ?_) (fun c34 => ?_)
      · refine g_iconst dX4_pairsApart_41 ic_0 ?_
        refine g_iadd dX4_pairsApart_42 ?_
        refine g_istore_n dX4_pairsApart_43 (by decide) rfl ?_
        refine g_iinc dX4_pairsApart_44 rfl (ii_n _) (by decide) rfl ?_
        refine g_goto 16 dX4_pairsApart_47 (by decide) ?_
        exact g_lv (by first | (rw [parJ, if_pos c34]; rw [show nI (p0 + parJ (h 11) a k) + 0 = nI (p0 + parJ (h 11) a k) from Int32.add_zero _]; rfl) | (rw [parJ, if_neg c34, nI_1]; rfl)) ih
      · refine g_iconst dX4_pairsApart_37 ic_1 ?_
        refine g_goto 42 dX4_pairsApart_38 (by decide) ?_
        refine g_iadd dX4_pairsApart_42 ?_
        refine g_istore_n dX4_pairsApart_43 (by decide) rfl ?_
        refine g_iinc dX4_pairsApart_44 rfl (ii_n _) (by decide) rfl ?_
        refine g_goto 16 dX4_pairsApart_47 (by decide) ?_
        exact g_lv (by first | (rw [parJ, if_pos c34]; rw [show nI (p0 + parJ (h 11) a k) + 0 = nI (p0 + parJ (h 11) a k) from Int32.add_zero _]; rfl) | (rw [parJ, if_neg c34, nI_1]; rfl)) ih

set_option maxRecDepth 100000 in
set_option maxHeartbeats 4000000 in
theorem l_X4_pairsApart {X : Sc} {h : Hp} (hI : In (h 11)) : ∀ k, k ≤ nG (h 11) → Go X RX4 cX4_pairsApart 4 1 4 [.ref 28, .int (nI (parM (h 11) k)), .int (nI k), .null] [] h (some (.int (nI (parM (h 11) (nG (h 11)))))) h := by
  have hN := hI.nG.1
  refine loop_up (nG (h 11)) ?_ ?_
  · refine g_iload_n dX4_pairsApart_4 rfl ?_
    refine g_aload_n dX4_pairsApart_5 rfl ?_
    refine g_getR dX4_pairsApart_6 fl_X4_9 rfl rfl ?_
    refine g_iconst dX4_pairsApart_9 ic_3 ?_
    refine g_iald0 3 dX4_pairsApart_10 rfl rfl (by decide) ?_
    refine g_icmp_ge 56 dX4_pairsApart_11 (by decide) (fun c11 => ?_) (fun c11 => ?_)
    · refine g_iload_n dX4_pairsApart_56 rfl ?_
      exact g_ireturn dX4_pairsApart_57 rfl rfl
    · exact (lp_yes (hI.nG.2) (by omega) c11).elim
  · intro k hk ih
    refine g_iload_n dX4_pairsApart_4 rfl ?_
    refine g_aload_n dX4_pairsApart_5 rfl ?_
    refine g_getR dX4_pairsApart_6 fl_X4_9 rfl rfl ?_
    refine g_iconst dX4_pairsApart_9 ic_3 ?_
    refine g_iald0 3 dX4_pairsApart_10 rfl rfl (by decide) ?_
    refine g_icmp_ge 56 dX4_pairsApart_11 (by decide) (fun c11 => ?_) (fun c11 => ?_)
    · exact (lp_no (hI.nG.2) (by omega) hk c11).elim
    · refine g_iconst dX4_pairsApart_14 ic_0 ?_
      refine g_istore_n dX4_pairsApart_15 (by decide) rfl ?_
      refine i_X4_pairsApart (p0 := parM (h 11) k) hI (a := k) (by omega) ?_ 0 (Nat.zero_le _)
      refine g_iinc dX4_pairsApart_50 rfl (ii_n _) (by decide) rfl ?_
      refine g_goto 4 dX4_pairsApart_53 (by decide) ?_
      refine g_mask [true, true, true, false] ?_
      exact ih

set_option maxRecDepth 100000 in
set_option maxHeartbeats 4000000 in
theorem c_X4_pairsApart {X : Sc} {h : Hp} (hI : In (h 11)) : Ct X yX4_pairsApart cX4_pairsApart 4 (some .int) 1 [.ref 28] h (some (.int (nI (parM (h 11) (nG (h 11)))))) h := by
  refine ⟨rfl, ?_⟩
  refine g_iconst dX4_pairsApart_0 ic_0 ?_
  refine g_istore_n dX4_pairsApart_1 (by decide) rfl ?_
  refine g_iconst dX4_pairsApart_2 ic_0 ?_
  refine g_istore_n dX4_pairsApart_3 (by decide) rfl ?_
  exact l_X4_pairsApart hI 0 (Nat.zero_le _)

set_option maxRecDepth 100000 in
set_option maxHeartbeats 4000000 in
theorem c_X4_thinks {X : Sc} {h : Hp} : Ct X yX4_thinks cX4_thinks 1 none 1 [.ref 28] h none (setg h 13 (h 11)) := by
  refine ⟨trivial, ?_⟩
  refine g_aload_n dX4_thinks_0 rfl ?_
  refine g_getR dX4_thinks_1 fl_X4_9 rfl rfl ?_
  refine g_aload_n dX4_thinks_4 rfl ?_
  refine g_getR dX4_thinks_5 fl_X4_16 rfl rfl ?_
  refine g_callS2v (c_X4_copyAll rfl rfl (by decide) (by decide)) mi_X4_copyAll ms_X4_copyAll ml_X4_140 dX4_thinks_8 (by decide) (Nat.le_of_ble_eq_true rfl) (Nat.le_of_ble_eq_true rfl) ?_
  exact g_return dX4_thinks_11 rfl rfl

set_option maxRecDepth 100000 in
set_option maxHeartbeats 4000000 in
theorem c_X4_putsBack {X : Sc} {h : Hp} : Ct X yX4_putsBack cX4_putsBack 1 none 1 [.ref 28] h none (setg h 11 (h 13)) := by
  refine ⟨trivial, ?_⟩
  refine g_aload_n dX4_putsBack_0 rfl ?_
  refine g_getR dX4_putsBack_1 fl_X4_16 rfl rfl ?_
  refine g_aload_n dX4_putsBack_4 rfl ?_
  refine g_getR dX4_putsBack_5 fl_X4_9 rfl rfl ?_
  refine g_callS2v (c_X4_copyAll rfl rfl (by decide) (by decide)) mi_X4_copyAll ms_X4_copyAll ml_X4_140 dX4_putsBack_8 (by decide) (Nat.le_of_ble_eq_true rfl) (Nat.le_of_ble_eq_true rfl) ?_
  exact g_return dX4_putsBack_11 rfl rfl

