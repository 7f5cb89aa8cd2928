/-! THE INN (class ForkInn$Inn) -/
theorem lp_no {N k : Nat} {x : Int32} (e : x = nI N) (hN : N < 2 ^ 31) (hk : k < N) (c : x ≤ nI k) : False := nI_ge hk hN (e ▸ c)
theorem lp_yes {N : Nat} {x : Int32} (e : x = nI N) (hN : N < 2 ^ 31) (c : ¬ x ≤ nI N) : False := c (e ▸ nI_le (Nat.le_refl N) hN)
theorem loop_up {P : Nat → Prop} (N : Nat) (base : P N) (step : ∀ k, k < N → P (k + 1) → P k) : ∀ k, k ≤ N → P k := by
  intro k hk
  obtain ⟨n, rfl⟩ : ∃ n, N = k + n := ⟨N - k, by omega⟩
  clear hk
  induction n generalizing k with
  | zero => exact base
  | succ n ih => exact step k (by omega) (ih (k + 1) (by rw [show k + 1 + n = k + (n + 1) by omega]; exact base) (by rw [show k + 1 + n = k + (n + 1) by omega]; exact step))
set_option maxRecDepth 100000 in
set_option maxHeartbeats 4000000 in
theorem c_X0_isDish {X : Sc} {h : Hp} {b g : Nat} (hb : InnAt b g) {x : Int32} : Ct X yX0_isDish cX0_isDish 2 (some .boolean) 0 [.ref b, .int x] h (some (.int (bI (isD (h g) x)))) h := by
  refine ⟨rok_b _, ?_⟩
  refine g_iload_n dX0_isDish_0 rfl ?_
  refine g_if_lt 16 dX0_isDish_1 (by decide) (fun c1 => ?_) (fun c1 => ?_)
  · refine g_iconst dX0_isDish_16 ic_0 ?_
    exact g_ireturn dX0_isDish_17 (by simp [isD, bI, *]) rfl
  · refine g_iload_n dX0_isDish_4 rfl ?_
    refine g_aload_n dX0_isDish_5 rfl ?_
    refine g_getI dX0_isDish_6 fl_X0_34 hb.1 rfl ?_
    refine g_icmp_ge 16 dX0_isDish_9 (by decide) (fun c9 => ?_) (fun c9 => ?_)
    · refine g_iconst dX0_isDish_16 ic_0 ?_
      exact g_ireturn dX0_isDish_17 (by simp [isD, bI, *]) rfl
    · refine g_iconst dX0_isDish_12 ic_1 ?_
      refine g_goto 17 dX0_isDish_13 (by decide) ?_
      exact g_ireturn dX0_isDish_17 (by simp [isD, bI, *]) rfl

set_option maxRecDepth 100000 in
set_option maxHeartbeats 4000000 in
theorem c_X0_isGuest {X : Sc} {h : Hp} {b g : Nat} (hb : InnAt b g) {x : Int32} : Ct X yX0_isGuest cX0_isGuest 2 (some .boolean) 0 [.ref b, .int x] h (some (.int (bI (isG (h g) x)))) h := by
  refine ⟨rok_b _, ?_⟩
  refine g_iload_n dX0_isGuest_0 rfl ?_
  refine g_if_lt 16 dX0_isGuest_1 (by decide) (fun c1 => ?_) (fun c1 => ?_)
  · refine g_iconst dX0_isGuest_16 ic_0 ?_
    exact g_ireturn dX0_isGuest_17 (by simp [isG, bI, *]) rfl
  · refine g_iload_n dX0_isGuest_4 rfl ?_
    refine g_aload_n dX0_isGuest_5 rfl ?_
    refine g_getI dX0_isGuest_6 fl_X0_37 hb.1 rfl ?_
    refine g_icmp_ge 16 dX0_isGuest_9 (by decide) (fun c9 => ?_) (fun c9 => ?_)
    · refine g_iconst dX0_isGuest_16 ic_0 ?_
      exact g_ireturn dX0_isGuest_17 (by simp [isG, bI, *]) rfl
    · refine g_iconst dX0_isGuest_12 ic_1 ?_
      refine g_goto 17 dX0_isGuest_13 (by decide) ?_
      exact g_ireturn dX0_isGuest_17 (by simp [isG, bI, *]) rfl

set_option maxRecDepth 100000 in
set_option maxHeartbeats 4000000 in
theorem c_X0_dishFact {X : Sc} {h : Hp} {b g : Nat} (hb : InnAt b g) {d w : Nat} (hd : d < 8) (hw : w < 6) : Ct X yX0_dishFact cX0_dishFact 3 (some .int) 0 [.ref b, .int (nI d), .int (nI w)] h (some (.int (dF (h g) d w))) h := by
  refine ⟨rfl, ?_⟩
  refine g_aload_n dX0_dishFact_0 rfl ?_
  refine g_getR dX0_dishFact_1 fl_X0_15 hb.1 rfl ?_
  refine g_iload_n dX0_dishFact_4 rfl ?_
  refine g_bipush dX0_dishFact_5 bp_6 ?_
  refine g_imul dX0_dishFact_7 ?_
  refine g_iload_n dX0_dishFact_8 rfl ?_
  refine g_iadd dX0_dishFact_9 ?_
  refine g_iald (d * 6 + w) dX0_dishFact_10 hb.2.2.1 (ix6 _ _) (by omega) ?_
  exact g_ireturn dX0_dishFact_11 rfl rfl

set_option maxRecDepth 100000 in
set_option maxHeartbeats 4000000 in
theorem c_X0_guestFact {X : Sc} {h : Hp} {b g : Nat} (hb : InnAt b g) {e w : Nat} (he : e < 6) (hw : w < 5) : Ct X yX0_guestFact cX0_guestFact 3 (some .int) 0 [.ref b, .int (nI e), .int (nI w)] h (some (.int (gF (h g) e w))) h := by
  refine ⟨rfl, ?_⟩
  refine g_aload_n dX0_guestFact_0 rfl ?_
  refine g_getR dX0_guestFact_1 fl_X0_18 hb.1 rfl ?_
  refine g_iload_n dX0_guestFact_4 rfl ?_
  refine g_iconst dX0_guestFact_5 ic_5 ?_
  refine g_imul dX0_guestFact_6 ?_
  refine g_iload_n dX0_guestFact_7 rfl ?_
  refine g_iadd dX0_guestFact_8 ?_
  refine g_iald (e * 5 + w) dX0_guestFact_9 hb.2.2.2.1 (ix5 _ _) (by omega) ?_
  exact g_ireturn dX0_guestFact_10 rfl rfl

set_option maxRecDepth 100000 in
set_option maxHeartbeats 4000000 in
theorem c_X0_putDishFact {X : Sc} {h : Hp} {b g : Nat} (hb : InnAt b g) {d w : Nat} (hd : d < 8) (hw : w < 6) {v : Int32} : Ct X yX0_putDishFact cX0_putDishFact 4 none 0 [.ref b, .int (nI d), .int (nI w), .int v] h none (setg h g (pD (h g) d w v)) := by
  refine ⟨trivial, ?_⟩
  refine g_aload_n dX0_putDishFact_0 rfl ?_
  refine g_getR dX0_putDishFact_1 fl_X0_15 hb.1 rfl ?_
  refine g_iload_n dX0_putDishFact_4 rfl ?_
  refine g_bipush dX0_putDishFact_5 bp_6 ?_
  refine g_imul dX0_putDishFact_7 ?_
  refine g_iload_n dX0_putDishFact_8 rfl ?_
  refine g_iadd dX0_putDishFact_9 ?_
  refine g_iload_n dX0_putDishFact_10 rfl ?_
  refine g_iast (d * 6 + w) dX0_putDishFact_11 hb.2.2.1 (ix6 _ _) (by omega) ?_
  exact g_return dX0_putDishFact_12 rfl (up_setg _ _ _ _)

set_option maxRecDepth 100000 in
set_option maxHeartbeats 4000000 in
theorem c_X0_putGuestFact {X : Sc} {h : Hp} {b g : Nat} (hb : InnAt b g) {e w : Nat} (he : e < 6) (hw : w < 5) {v : Int32} : Ct X yX0_putGuestFact cX0_putGuestFact 4 none 0 [.ref b, .int (nI e), .int (nI w), .int v] h none (setg h g (pG (h g) e w v)) := by
  refine ⟨trivial, ?_⟩
  refine g_aload_n dX0_putGuestFact_0 rfl ?_
  refine g_getR dX0_putGuestFact_1 fl_X0_18 hb.1 rfl ?_
  refine g_iload_n dX0_putGuestFact_4 rfl ?_
  refine g_iconst dX0_putGuestFact_5 ic_5 ?_
  refine g_imul dX0_putGuestFact_6 ?_
  refine g_iload_n dX0_putGuestFact_7 rfl ?_
  refine g_iadd dX0_putGuestFact_8 ?_
  refine g_iload_n dX0_putGuestFact_9 rfl ?_
  refine g_iast (e * 5 + w) dX0_putGuestFact_10 hb.2.2.2.1 (ix5 _ _) (by omega) ?_
  exact g_return dX0_putGuestFact_11 rfl (up_setg _ _ _ _)

set_option maxRecDepth 100000 in
set_option maxHeartbeats 4000000 in
theorem c_X0_isOff {X : Sc} {h : Hp} {b g : Nat} (hb : InnAt b g) {d : Nat} (hd : d < 8) : Ct X yX0_isOff cX0_isOff 2 (some .boolean) 1 [.ref b, .int (nI d)] h (some (.int (bI (decide (dF (h g) d 5 = 1))))) h := by
  refine ⟨rok_b _, ?_⟩
  refine g_aload_n dX0_isOff_0 rfl ?_
  refine g_iload_n dX0_isOff_1 rfl ?_
  refine g_iconst dX0_isOff_2 ic_5 ?_
  refine g_callV2i (c_X0_dishFact (w := 5) hb hd (by decide)) mi_X0_dishFact mv_X0_dishFact ml_X0_43 dX0_isOff_3 hb.1 rfl (by decide) (Nat.le_of_ble_eq_true rfl) (Nat.le_of_ble_eq_true rfl) ?_
  refine g_iconst dX0_isOff_6 ic_1 ?_
  refine g_icmp_ne 14 dX0_isOff_7 (by decide) (fun c7 => ?_) (fun c7 => ?_)
  · refine g_iconst dX0_isOff_14 ic_0 ?_
    exact g_ireturn dX0_isOff_15 (by simp [bI, *]) rfl
  · refine g_iconst dX0_isOff_10 ic_1 ?_
    refine g_goto 15 dX0_isOff_11 (by decide) ?_
    exact g_ireturn dX0_isOff_15 (by simp [bI, *]) rfl

def newD (m : Rw) (kind left right : Int32) : Rw := pD (pD (pD (pD (pD (pD (upd m 2 (m 2 + 1)) (nD m) 0 kind) (nD m) 1 left) (nD m) 2 right) (nD m) 3 10) (nD m) 4 0) (nD m) 5 0
def newG (m : Rw) (bent : Int32) : Rw := pG (pG (pG (pG (pG (upd m 3 (m 3 + 1)) (nG m) 0 bent) (nG m) 1 0) (nG m) 2 0) (nG m) 3 0) (nG m) 4 0
set_option maxRecDepth 100000 in
set_option maxHeartbeats 4000000 in
theorem c_X0_addDish {X : Sc} {h : Hp} {b g : Nat} (hb : InnAt b g) {x y z : Int32} (e2 : h g 2 = nI (nD (h g))) (hn : nD (h g) < 8) : Ct X yX0_addDish cX0_addDish 5 (some .int) 1 [.ref b, .int x, .int y, .int z] h (some (.int (nI (nD (h g))))) (setg h g (newD (h g) x y z)) := by
  refine ⟨rfl, ?_⟩
  refine g_aload_n dX0_addDish_0 rfl ?_
  refine g_getI dX0_addDish_1 fl_X0_34 hb.1 rfl ?_
  refine g_st (st2 := [.int (nI (nD (h g)))]) (by rw [e2]) ?_
  refine g_istore dX0_addDish_4 (by decide) rfl ?_
  refine g_aload_n dX0_addDish_6 rfl ?_
  refine g_dup dX0_addDish_7 rfl ?_
  refine g_getI dX0_addDish_8 fl_X0_34 hb.1 rfl ?_
  refine g_iconst dX0_addDish_11 ic_1 ?_
  refine g_iadd dX0_addDish_12 ?_
  refine g_putI dX0_addDish_13 fl_X0_34 fp_0_4 hb.1 rfl ?_
  refine g_aload_n dX0_addDish_16 rfl ?_
  refine g_iload dX0_addDish_17 rfl ?_
  refine g_iconst dX0_addDish_19 ic_0 ?_
  refine g_iload_n dX0_addDish_20 rfl ?_
  refine g_callV3v (c_X0_putDishFact (d := nD (h g)) (w := 0) hb hn (by decide)) mi_X0_putDishFact mv_X0_putDishFact ml_X0_47 dX0_addDish_21 hb.1 rfl (by decide) (Nat.le_of_ble_eq_true rfl) (Nat.le_of_ble_eq_true rfl) ?_
  refine g_aload_n dX0_addDish_24 rfl ?_
  refine g_iload dX0_addDish_25 rfl ?_
  refine g_iconst dX0_addDish_27 ic_1 ?_
  refine g_iload_n dX0_addDish_28 rfl ?_
  refine g_callV3v (c_X0_putDishFact (d := nD (h g)) (w := 1) hb hn (by decide)) mi_X0_putDishFact mv_X0_putDishFact ml_X0_47 dX0_addDish_29 hb.1 rfl (by decide) (Nat.le_of_ble_eq_true rfl) (Nat.le_of_ble_eq_true rfl) ?_
  refine g_aload_n dX0_addDish_32 rfl ?_
  refine g_iload dX0_addDish_33 rfl ?_
  refine g_iconst dX0_addDish_35 ic_2 ?_
  refine g_iload_n dX0_addDish_36 rfl ?_
  refine g_callV3v (c_X0_putDishFact (d := nD (h g)) (w := 2) hb hn (by decide)) mi_X0_putDishFact mv_X0_putDishFact ml_X0_47 dX0_addDish_37 hb.1 rfl (by decide) (Nat.le_of_ble_eq_true rfl) (Nat.le_of_ble_eq_true rfl) ?_
  refine g_aload_n dX0_addDish_40 rfl ?_
  refine g_iload dX0_addDish_41 rfl ?_
  refine g_iconst dX0_addDish_43 ic_3 ?_
  refine g_bipush dX0_addDish_44 bp_10 ?_
  refine g_callV3v (c_X0_putDishFact (d := nD (h g)) (w := 3) hb hn (by decide)) mi_X0_putDishFact mv_X0_putDishFact ml_X0_47 dX0_addDish_46 hb.1 rfl (by decide) (Nat.le_of_ble_eq_true rfl) (Nat.le_of_ble_eq_true rfl) ?_
  refine g_aload_n dX0_addDish_49 rfl ?_
  refine g_iload dX0_addDish_50 rfl ?_
  refine g_iconst dX0_addDish_52 ic_4 ?_
  refine g_iconst dX0_addDish_53 ic_0 ?_
  refine g_callV3v (c_X0_putDishFact (d := nD (h g)) (w := 4) hb hn (by decide)) mi_X0_putDishFact mv_X0_putDishFact ml_X0_47 dX0_addDish_54 hb.1 rfl (by decide) (Nat.le_of_ble_eq_true rfl) (Nat.le_of_ble_eq_true rfl) ?_
  refine g_aload_n dX0_addDish_57 rfl ?_
  refine g_iload dX0_addDish_58 rfl ?_
  refine g_iconst dX0_addDish_60 ic_5 ?_
  refine g_iconst dX0_addDish_61 ic_0 ?_
  refine g_callV3v (c_X0_putDishFact (d := nD (h g)) (w := 5) hb hn (by decide)) mi_X0_putDishFact mv_X0_putDishFact ml_X0_47 dX0_addDish_62 hb.1 rfl (by decide) (Nat.le_of_ble_eq_true rfl) (Nat.le_of_ble_eq_true rfl) ?_
  refine g_iload dX0_addDish_65 rfl ?_
  exact g_ireturn dX0_addDish_67 rfl (by simp [setg_s, setg_2, up_setg, newD])

set_option maxRecDepth 100000 in
set_option maxHeartbeats 4000000 in
theorem c_X0_addGuest {X : Sc} {h : Hp} {b g : Nat} (hb : InnAt b g) {x : Int32} (e3 : h g 3 = nI (nG (h g))) (hn : nG (h g) < 6) : Ct X yX0_addGuest cX0_addGuest 3 (some .int) 1 [.ref b, .int x] h (some (.int (nI (nG (h g))))) (setg h g (newG (h g) x)) := by
  refine ⟨rfl, ?_⟩
  refine g_aload_n dX0_addGuest_0 rfl ?_
  refine g_getI dX0_addGuest_1 fl_X0_37 hb.1 rfl ?_
  refine g_st (st2 := [.int (nI (nG (h g)))]) (by rw [e3]) ?_
  refine g_istore_n dX0_addGuest_4 (by decide) rfl ?_
  refine g_aload_n dX0_addGuest_5 rfl ?_
  refine g_dup dX0_addGuest_6 rfl ?_
  refine g_getI dX0_addGuest_7 fl_X0_37 hb.1 rfl ?_
  refine g_iconst dX0_addGuest_10 ic_1 ?_
  refine g_iadd dX0_addGuest_11 ?_
  refine g_putI dX0_addGuest_12 fl_X0_37 fp_0_5 hb.1 rfl ?_
  refine g_aload_n dX0_addGuest_15 rfl ?_
  refine g_iload_n dX0_addGuest_16 rfl ?_
  refine g_iconst dX0_addGuest_17 ic_0 ?_
  refine g_iload_n dX0_addGuest_18 rfl ?_
  refine g_callV3v (c_X0_putGuestFact (e := nG (h g)) (w := 0) hb hn (by decide)) mi_X0_putGuestFact mv_X0_putGuestFact ml_X0_51 dX0_addGuest_19 hb.1 rfl (by decide) (Nat.le_of_ble_eq_true rfl) (Nat.le_of_ble_eq_true rfl) ?_
  refine g_aload_n dX0_addGuest_22 rfl ?_
  refine g_iload_n dX0_addGuest_23 rfl ?_
  refine g_iconst dX0_addGuest_24 ic_1 ?_
  refine g_iconst dX0_addGuest_25 ic_0 ?_
  refine g_callV3v (c_X0_putGuestFact (e := nG (h g)) (w := 1) hb hn (by decide)) mi_X0_putGuestFact mv_X0_putGuestFact ml_X0_51 dX0_addGuest_26 hb.1 rfl (by decide) (Nat.le_of_ble_eq_true rfl) (Nat.le_of_ble_eq_true rfl) ?_
  refine g_aload_n dX0_addGuest_29 rfl ?_
  refine g_iload_n dX0_addGuest_30 rfl ?_
  refine g_iconst dX0_addGuest_31 ic_2 ?_
  refine g_iconst dX0_addGuest_32 ic_0 ?_
  refine g_callV3v (c_X0_putGuestFact (e := nG (h g)) (w := 2) hb hn (by decide)) mi_X0_putGuestFact mv_X0_putGuestFact ml_X0_51 dX0_addGuest_33 hb.1 rfl (by decide) (Nat.le_of_ble_eq_true rfl) (Nat.le_of_ble_eq_true rfl) ?_
  refine g_aload_n dX0_addGuest_36 rfl ?_
  refine g_iload_n dX0_addGuest_37 rfl ?_
  refine g_iconst dX0_addGuest_38 ic_3 ?_
  refine g_iconst dX0_addGuest_39 ic_0 ?_
  refine g_callV3v (c_X0_putGuestFact (e := nG (h g)) (w := 3) hb hn (by decide)) mi_X0_putGuestFact mv_X0_putGuestFact ml_X0_51 dX0_addGuest_40 hb.1 rfl (by decide) (Nat.le_of_ble_eq_true rfl) (Nat.le_of_ble_eq_true rfl) ?_
  refine g_aload_n dX0_addGuest_43 rfl ?_
  refine g_iload_n dX0_addGuest_44 rfl ?_
  refine g_iconst dX0_addGuest_45 ic_4 ?_
  refine g_iconst dX0_addGuest_46 ic_0 ?_
  refine g_callV3v (c_X0_putGuestFact (e := nG (h g)) (w := 4) hb hn (by decide)) mi_X0_putGuestFact mv_X0_putGuestFact ml_X0_51 dX0_addGuest_47 hb.1 rfl (by decide) (Nat.le_of_ble_eq_true rfl) (Nat.le_of_ble_eq_true rfl) ?_
  refine g_iload_n dX0_addGuest_50 rfl ?_
  exact g_ireturn dX0_addGuest_51 rfl (by simp [setg_s, setg_2, up_setg, newG])

set_option maxRecDepth 100000 in
set_option maxHeartbeats 4000000 in
theorem c_X0_planMeal {X : Sc} {h : Hp} {b g : Nat} (hb : InnAt b g) {i : Nat} (hi : i < 6) {x y : Int32} : Ct X yX0_planMeal cX0_planMeal 4 none 0 [.ref b, .int (nI i), .int x, .int y] h none (setg h g (upd (h g) (4 + i) (10 * x + y))) := by
  refine ⟨trivial, ?_⟩
  refine g_aload_n dX0_planMeal_0 rfl ?_
  refine g_getR dX0_planMeal_1 fl_X0_11 hb.1 rfl ?_
  refine g_iload_n dX0_planMeal_4 rfl ?_
  refine g_bipush dX0_planMeal_5 bp_10 ?_
  refine g_iload_n dX0_planMeal_7 rfl ?_
  refine g_imul dX0_planMeal_8 ?_
  refine g_iload_n dX0_planMeal_9 rfl ?_
  refine g_iadd dX0_planMeal_10 ?_
  refine g_iast i dX0_planMeal_11 hb.2.1 rfl hi ?_
  exact g_return dX0_planMeal_12 rfl (up_setg _ _ _ _)

set_option maxRecDepth 100000 in
set_option maxHeartbeats 4000000 in
theorem c_X0_guestOfMeal {X : Sc} {h : Hp} {x : Int32} : Ct X yX0_guestOfMeal cX0_guestOfMeal 1 (some .int) 0 [.int x] h (some (.int (x / 10))) h := by
  refine ⟨rfl, ?_⟩
  refine g_iload_n dX0_guestOfMeal_0 rfl ?_
  refine g_bipush dX0_guestOfMeal_1 bp_10 ?_
  refine g_idiv dX0_guestOfMeal_3 (by decide) ?_
  exact g_ireturn dX0_guestOfMeal_4 rfl rfl

set_option maxRecDepth 100000 in
set_option maxHeartbeats 4000000 in
theorem c_X0_dishOfMeal {X : Sc} {h : Hp} {x : Int32} : Ct X yX0_dishOfMeal cX0_dishOfMeal 1 (some .int) 0 [.int x] h (some (.int (x - x / 10 * 10))) h := by
  refine ⟨rfl, ?_⟩
  refine g_iload_n dX0_dishOfMeal_0 rfl ?_
  refine g_bipush dX0_dishOfMeal_1 bp_10 ?_
  refine g_irem dX0_dishOfMeal_3 (by decide) ?_
  exact g_ireturn dX0_dishOfMeal_4 rfl rfl

theorem othG_up {m : Rw} {g : Nat} {t : Int32} {k : Nat} (h : othG m g t k = true) : ∀ n, k ≤ n → othG m g t n = true := by
  intro n hn
  induction n with
  | zero => rwa [Nat.le_zero.mp hn] at h
  | succ n ih =>
    rcases Nat.lt_or_ge k (n + 1) with q | q
    · simp [othG, ih (by omega)]
    · rwa [show n + 1 = k by omega]
set_option maxRecDepth 100000 in
set_option maxHeartbeats 4000000 in
theorem l_X0_anotherIsFor {X : Sc} {h : Hp} {b g : Nat} (hb : InnAt b g) (hI : In (h g)) {e : Nat} (he : e < 6) {t : Int32} : ∀ k, k ≤ nG (h g) → othG (h g) e t k = false → Go X RX0 cX0_anotherIsFor 4 0 2 [.ref b, .int (nI e), .int t, .int (nI k)] [] h (some (.int (bI (othG (h g) e t (nG (h g)))))) h := by
  have hN := hI.nG.1
  refine loop_up (nG (h g)) ?_ ?_
  · intro hy
    refine g_iload_n dX0_anotherIsFor_2 rfl ?_
    refine g_aload_n dX0_anotherIsFor_3 rfl ?_
    refine g_getI dX0_anotherIsFor_4 fl_X0_37 hb.1 rfl ?_
    refine g_icmp_ge 37 dX0_anotherIsFor_7 (by decide) (fun c7 => ?_) (fun c7 => ?_)
    · refine g_iconst dX0_anotherIsFor_37 ic_0 ?_
      exact g_ireturn dX0_anotherIsFor_38 (by rw [hy]; rfl) rfl
    · exact (lp_yes (hI.nG.2) (by omega) c7).elim
  · intro k hk ih hy
    refine g_iload_n dX0_anotherIsFor_2 rfl ?_
    refine g_aload_n dX0_anotherIsFor_3 rfl ?_
    refine g_getI dX0_anotherIsFor_4 fl_X0_37 hb.1 rfl ?_
    refine g_icmp_ge 37 dX0_anotherIsFor_7 (by decide) (fun c7 => ?_) (fun c7 => ?_)
    · exact (lp_no (hI.nG.2) (by omega) hk c7).elim
    · refine g_iload_n dX0_anotherIsFor_10 rfl ?_
      refine g_iload_n dX0_anotherIsFor_11 rfl ?_
      refine g_icmp_eq 31 dX0_anotherIsFor_12 (by decide) (fun c12 => ?_) (fun c12 => ?_)
      · refine g_iinc dX0_anotherIsFor_31 rfl (ii_n _) (by decide) rfl ?_
        refine g_goto 2 dX0_anotherIsFor_34 (by decide) ?_
        first
        | exact ih (by have q := (nI_eq (by omega) (by omega)).mp c12; subst q; simp [othG, hy])
        | exact ih (by simp [othG, hy, gF, c26])
      · have n12 : ¬ k = e := fun q => c12 (by rw [q])
        refine g_aload_n dX0_anotherIsFor_15 rfl ?_
        refine g_getR dX0_anotherIsFor_16 fl_X0_18 hb.1 rfl ?_
        refine g_iload_n dX0_anotherIsFor_19 rfl ?_
        refine g_iconst dX0_anotherIsFor_20 ic_5 ?_
        refine g_imul dX0_anotherIsFor_21 ?_
        refine g_iconst dX0_anotherIsFor_22 ic_1 ?_
        refine g_iadd dX0_anotherIsFor_23 ?_
        refine g_iald (k * 5 + 1) dX0_anotherIsFor_24 hb.2.2.2.1 (ix5 k 1) (by omega) ?_
        refine g_iload_n dX0_anotherIsFor_25 rfl ?_
        refine g_icmp_ne 31 dX0_anotherIsFor_26 (by decide) (fun c26 => ?_) (fun c26 => ?_)
        · refine g_iinc dX0_anotherIsFor_31 rfl (ii_n _) (by decide) rfl ?_
          refine g_goto 2 dX0_anotherIsFor_34 (by decide) ?_
          first
          | exact ih (by have q := (nI_eq (by omega) (by omega)).mp c12; subst q; simp [othG, hy])
          | exact ih (by simp [othG, hy, gF, c26])
        · refine g_iconst dX0_anotherIsFor_29 ic_1 ?_
          exact g_ireturn dX0_anotherIsFor_30 (by rw [othG_up (k := k + 1) (by simp [othG, gF, c26, n12]) _ (by omega)]; rfl) rfl

set_option maxRecDepth 100000 in
set_option maxHeartbeats 4000000 in
theorem c_X0_anotherIsFor {X : Sc} {h : Hp} {b g : Nat} (hb : InnAt b g) (hI : In (h g)) {e : Nat} (he : e < 6) {t : Int32} : Ct X yX0_anotherIsFor cX0_anotherIsFor 4 (some .boolean) 0 [.ref b, .int (nI e), .int t] h (some (.int (bI (othG (h g) e t (nG (h g)))))) h := by
  refine ⟨rok_b _, ?_⟩
  refine g_iconst dX0_anotherIsFor_0 ic_0 ?_
  refine g_istore_n dX0_anotherIsFor_1 (by decide) rfl ?_
  exact l_X0_anotherIsFor hb hI he 0 (Nat.zero_le _) rfl

set_option maxRecDepth 100000 in
set_option maxHeartbeats 4000000 in
theorem c_X0_takesLeft {X : Sc} {h : Hp} {b g : Nat} (hb : InnAt b g) (hI : In (h g)) {e d : Nat} (he : e < 6) (hd : d < 8) : Ct X yX0_takesLeft cX0_takesLeft 6 (some .boolean) 1 [.ref b, .int (nI e), .int (nI d)] h (some (.int (bI (lft (h g) e d)))) h := by
  refine ⟨rok_b _, ?_⟩
  refine g_aload_n dX0_takesLeft_0 rfl ?_
  refine g_iload_n dX0_takesLeft_1 rfl ?_
  refine g_iconst dX0_takesLeft_2 ic_0 ?_
  refine g_callV2i (c_X0_guestFact (w := 0) hb he (by decide)) mi_X0_guestFact mv_X0_guestFact ml_X0_57 dX0_takesLeft_3 hb.1 rfl (by decide) (Nat.le_of_ble_eq_true rfl) (Nat.le_of_ble_eq_true rfl) ?_
  refine g_istore_n dX0_takesLeft_6 (by decide) rfl ?_
  refine g_iload_n dX0_takesLeft_7 rfl ?_
  refine g_iconst dX0_takesLeft_8 ic_2 ?_
  refine g_irem dX0_takesLeft_9 (by decide) ?_
  refine g_if_ne 17 dX0_takesLeft_10 (by decide) (fun c10 => ?_) (fun c10 => ?_)
  · refine g_iconst dX0_takesLeft_17 ic_0 ?_
    refine g_istore dX0_takesLeft_18 (by decide) rfl ?_
    refine g_aload_n dX0_takesLeft_20 rfl ?_
    refine g_iload_n dX0_takesLeft_21 rfl ?_
    refine g_iconst dX0_takesLeft_22 ic_4 ?_
    refine g_callV2i (c_X0_dishFact (w := 4) hb hd (by decide)) mi_X0_dishFact mv_X0_dishFact ml_X0_43 dX0_takesLeft_23 hb.1 rfl (by decide) (Nat.le_of_ble_eq_true rfl) (Nat.le_of_ble_eq_true rfl) ?_
    refine g_iconst dX0_takesLeft_26 ic_2 ?_
    refine g_irem dX0_takesLeft_27 (by decide) ?_
    refine g_if_ne 35 dX0_takesLeft_28 (by decide) (fun c28 => ?_) (fun c28 => ?_)
    · refine g_iconst dX0_takesLeft_35 ic_0 ?_
      refine g_istore dX0_takesLeft_36 (by decide) rfl ?_
      refine g_aload_n dX0_takesLeft_38 rfl ?_
      refine g_iload_n dX0_takesLeft_39 rfl ?_
      refine g_iconst dX0_takesLeft_40 ic_0 ?_
      refine g_callV2i (c_X0_dishFact (w := 0) hb hd (by decide)) mi_X0_dishFact mv_X0_dishFact ml_X0_43 dX0_takesLeft_41 hb.1 rfl (by decide) (Nat.le_of_ble_eq_true rfl) (Nat.le_of_ble_eq_true rfl) ?_
      refine g_tswc (1) (1) (40) 84 dX0_takesLeft_44 (by decide) (by decide) (by decide) rfl (by decide) (fun c44 => ?_) (fun c44_0 n44_0 => ?_)
      · refine g_iload dX0_takesLeft_84 rfl ?_
        exact g_ireturn dX0_takesLeft_86 (by simp_all [lft, evn, bI]) rfl
      refine g_tswc (2) (2) (56) 100 dX0_takesLeft_44 (by decide) (by decide) (by decide) rfl (by decide) (fun c44 => ?_) (fun c44_1 n44_1 => ?_)
      · refine g_iload_n dX0_takesLeft_100 rfl ?_
        refine g_bipush dX0_takesLeft_101 bp_30 ?_
        refine g_icmp_ge 110 dX0_takesLeft_103 (by decide) (fun c103 => ?_) (fun c103 => ?_)
        · refine g_iconst dX0_takesLeft_110 ic_0 ?_
          exact g_ireturn dX0_takesLeft_111 (by simp_all [lft, evn, bI]) rfl
        · refine g_iconst dX0_takesLeft_106 ic_1 ?_
          refine g_goto 111 dX0_takesLeft_107 (by decide) ?_
          exact g_ireturn dX0_takesLeft_111 (by simp_all [lft, evn, bI]) rfl
      refine g_tswc (3) (3) (68) 112 dX0_takesLeft_44 (by decide) (by decide) (by decide) rfl (by decide) (fun c44 => ?_) (fun c44_2 n44_2 => ?_)
      · refine g_iload_n dX0_takesLeft_112 rfl ?_
        refine g_bipush dX0_takesLeft_113 bp_30 ?_
        refine g_icmp_lt 132 dX0_takesLeft_115 (by decide) (fun c115 => ?_) (fun c115 => ?_)
        · refine g_iconst dX0_takesLeft_132 ic_1 ?_
          refine g_goto 137 dX0_takesLeft_133 (by decide) ?_
          exact g_ireturn dX0_takesLeft_137 (by simp_all [lft, evn, bI]) rfl
        · refine g_aload_n dX0_takesLeft_118 rfl ?_
          refine g_iload_n dX0_takesLeft_119 rfl ?_
          refine g_aload_n dX0_takesLeft_120 rfl ?_
          refine g_iload_n dX0_takesLeft_121 rfl ?_
          refine g_iconst dX0_takesLeft_122 ic_2 ?_
          refine g_callV2i (c_X0_dishFact (w := 2) hb hd (by decide)) mi_X0_dishFact mv_X0_dishFact ml_X0_43 dX0_takesLeft_123 hb.1 rfl (by decide) (Nat.le_of_ble_eq_true rfl) (Nat.le_of_ble_eq_true rfl) ?_
          refine g_callV2i (c_X0_anotherIsFor hb hI he) mi_X0_anotherIsFor mv_X0_anotherIsFor ml_X0_60 dX0_takesLeft_126 hb.1 rfl (by decide) (Nat.le_of_ble_eq_true rfl) (Nat.le_of_ble_eq_true rfl) ?_
          refine g_if_eq 136 dX0_takesLeft_129 (by decide) (fun c129 => ?_) (fun c129 => ?_)
          · refine g_iconst dX0_takesLeft_136 ic_0 ?_
            exact g_ireturn dX0_takesLeft_137 (by simp_all [lft, evn, bI]) rfl
          · refine g_iconst dX0_takesLeft_132 ic_1 ?_
            refine g_goto 137 dX0_takesLeft_133 (by decide) ?_
            exact g_ireturn dX0_takesLeft_137 (by simp_all [lft, evn, bI]) rfl
      refine g_tswc (4) (4) (94) 138 dX0_takesLeft_44 (by decide) (by decide) (by decide) rfl (by decide) (fun c44 => ?_) (fun c44_3 n44_3 => ?_)
      · refine g_iload dX0_takesLeft_138 rfl ?_
        exact g_ireturn dX0_takesLeft_140 (by simp_all [lft, evn, bI]) rfl
      refine g_tswc (5) (5) (97) 141 dX0_takesLeft_44 (by decide) (by decide) (by decide) rfl (by decide) (fun c44 => ?_) (fun c44_4 n44_4 => ?_)
      · refine g_iconst dX0_takesLeft_141 ic_1 ?_
        exact g_ireturn dX0_takesLeft_142 (by simp_all [lft, evn, bI]) rfl
      refine g_tswc (6) (6) (43) 87 dX0_takesLeft_44 (by decide) (by decide) (by decide) rfl (by decide) (fun c44 => ?_) (fun c44_5 n44_5 => ?_)
      · refine g_iload dX0_takesLeft_87 rfl ?_
        refine g_iload dX0_takesLeft_89 rfl ?_
        refine g_icmp_ne 98 dX0_takesLeft_91 (by decide) (fun c91 => ?_) (fun c91 => ?_)
        · refine g_iconst dX0_takesLeft_98 ic_0 ?_
          exact g_ireturn dX0_takesLeft_99 (by simp_all [lft, evn, bI]) rfl
        · refine g_iconst dX0_takesLeft_94 ic_1 ?_
          refine g_goto 99 dX0_takesLeft_95 (by decide) ?_
          exact g_ireturn dX0_takesLeft_99 (by simp_all [lft, evn, bI]) rfl
      refine g_tswd 143 dX0_takesLeft_44 (by omega) (by decide) ?_
      refine g_iload_n dX0_takesLeft_143 rfl ?_
      refine g_bipush dX0_takesLeft_144 bp_50 ?_
      refine g_icmp_ge 153 dX0_takesLeft_146 (by decide) (fun c146 => ?_) (fun c146 => ?_)
      · refine g_iconst dX0_takesLeft_153 ic_0 ?_
        exact g_ireturn dX0_takesLeft_154 (by simp_all [lft, evn, bI]) rfl
      · refine g_iconst dX0_takesLeft_149 ic_1 ?_
        refine g_goto 154 dX0_takesLeft_150 (by decide) ?_
        exact g_ireturn dX0_takesLeft_154 (by simp_all [lft, evn, bI]) rfl
    · refine g_iconst dX0_takesLeft_31 ic_1 ?_
      refine g_goto 36 dX0_takesLeft_32 (by decide) ?_
      refine g_istore dX0_takesLeft_36 (by decide) rfl ?_
      refine g_aload_n dX0_takesLeft_38 rfl ?_
      refine g_iload_n dX0_takesLeft_39 rfl ?_
      refine g_iconst dX0_takesLeft_40 ic_0 ?_
      refine g_callV2i (c_X0_dishFact (w := 0) hb hd (by decide)) mi_X0_dishFact mv_X0_dishFact ml_X0_43 dX0_takesLeft_41 hb.1 rfl (by decide) (Nat.le_of_ble_eq_true rfl) (Nat.le_of_ble_eq_true rfl) ?_
      refine g_tswc (1) (1) (40) 84 dX0_takesLeft_44 (by decide) (by decide) (by decide) rfl (by decide) (fun c44 => ?_) (fun c44_0 n44_0 => ?_)
      · refine g_iload dX0_takesLeft_84 rfl ?_
        exact g_ireturn dX0_takesLeft_86 (by simp_all [lft, evn, bI]) rfl
      refine g_tswc (2) (2) (56) 100 dX0_takesLeft_44 (by decide) (by decide) (by decide) rfl (by decide) (fun c44 => ?_) (fun c44_1 n44_1 => ?_)
      · refine g_iload_n dX0_takesLeft_100 rfl ?_
        refine g_bipush dX0_takesLeft_101 bp_30 ?_
        refine g_icmp_ge 110 dX0_takesLeft_103 (by decide) (fun c103 => ?_) (fun c103 => ?_)
        · refine g_iconst dX0_takesLeft_110 ic_0 ?_
          exact g_ireturn dX0_takesLeft_111 (by simp_all [lft, evn, bI]) rfl
        · refine g_iconst dX0_takesLeft_106 ic_1 ?_
          refine g_goto 111 dX0_takesLeft_107 (by decide) ?_
          exact g_ireturn dX0_takesLeft_111 (by simp_all [lft, evn, bI]) rfl
      refine g_tswc (3) (3) (68) 112 dX0_takesLeft_44 (by decide) (by decide) (by decide) rfl (by decide) (fun c44 => ?_) (fun c44_2 n44_2 => ?_)
      · refine g_iload_n dX0_takesLeft_112 rfl ?_
        refine g_bipush dX0_takesLeft_113 bp_30 ?_
        refine g_icmp_lt 132 dX0_takesLeft_115 (by decide) (fun c115 => ?_) (fun c115 => ?_)
        · refine g_iconst dX0_takesLeft_132 ic_1 ?_
          refine g_goto 137 dX0_takesLeft_133 (by decide) ?_
          exact g_ireturn dX0_takesLeft_137 (by simp_all [lft, evn, bI]) rfl
        · refine g_aload_n dX0_takesLeft_118 rfl ?_
          refine g_iload_n dX0_takesLeft_119 rfl ?_
          refine g_aload_n dX0_takesLeft_120 rfl ?_
          refine g_iload_n dX0_takesLeft_121 rfl ?_
          refine g_iconst dX0_takesLeft_122 ic_2 ?_
          refine g_callV2i (c_X0_dishFact (w := 2) hb hd (by decide)) mi_X0_dishFact mv_X0_dishFact ml_X0_43 dX0_takesLeft_123 hb.1 rfl (by decide) (Nat.le_of_ble_eq_true rfl) (Nat.le_of_ble_eq_true rfl) ?_
          refine g_callV2i (c_X0_anotherIsFor hb hI he) mi_X0_anotherIsFor mv_X0_anotherIsFor ml_X0_60 dX0_takesLeft_126 hb.1 rfl (by decide) (Nat.le_of_ble_eq_true rfl) (Nat.le_of_ble_eq_true rfl) ?_
          refine g_if_eq 136 dX0_takesLeft_129 (by decide) (fun c129 => ?_) (fun c129 => ?_)
          · refine g_iconst dX0_takesLeft_136 ic_0 ?_
            exact g_ireturn dX0_takesLeft_137 (by simp_all [lft, evn, bI]) rfl
          · refine g_iconst dX0_takesLeft_132 ic_1 ?_
            refine g_goto 137 dX0_takesLeft_133 (by decide) ?_
            exact g_ireturn dX0_takesLeft_137 (by simp_all [lft, evn, bI]) rfl
      refine g_tswc (4) (4) (94) 138 dX0_takesLeft_44 (by decide) (by decide) (by decide) rfl (by decide) (fun c44 => ?_) (fun c44_3 n44_3 => ?_)
      · refine g_iload dX0_takesLeft_138 rfl ?_
        exact g_ireturn dX0_takesLeft_140 (by simp_all [lft, evn, bI]) rfl
      refine g_tswc (5) (5) (97) 141 dX0_takesLeft_44 (by decide) (by decide) (by decide) rfl (by decide) (fun c44 => ?_) (fun c44_4 n44_4 => ?_)
      · refine g_iconst dX0_takesLeft_141 ic_1 ?_
        exact g_ireturn dX0_takesLeft_142 (by simp_all [lft, evn, bI]) rfl
      refine g_tswc (6) (6) (43) 87 dX0_takesLeft_44 (by decide) (by decide) (by decide) rfl (by decide) (fun c44 => ?_) (fun c44_5 n44_5 => ?_)
      · refine g_iload dX0_takesLeft_87 rfl ?_
        refine g_iload dX0_takesLeft_89 rfl ?_
        refine g_icmp_ne 98 dX0_takesLeft_91 (by decide) (fun c91 => ?_) (fun c91 => ?_)
        · refine g_iconst dX0_takesLeft_98 ic_0 ?_
          exact g_ireturn dX0_takesLeft_99 (by simp_all [lft, evn, bI]) rfl
        · refine g_iconst dX0_takesLeft_94 ic_1 ?_
          refine g_goto 99 dX0_takesLeft_95 (by decide) ?_
          exact g_ireturn dX0_takesLeft_99 (by simp_all [lft, evn, bI]) rfl
      refine g_tswd 143 dX0_takesLeft_44 (by omega) (by decide) ?_
      refine g_iload_n dX0_takesLeft_143 rfl ?_
      refine g_bipush dX0_takesLeft_144 bp_50 ?_
      refine g_icmp_ge 153 dX0_takesLeft_146 (by decide) (fun c146 => ?_) (fun c146 => ?_)
      · refine g_iconst dX0_takesLeft_153 ic_0 ?_
        exact g_ireturn dX0_takesLeft_154 (by simp_all [lft, evn, bI]) rfl
      · refine g_iconst dX0_takesLeft_149 ic_1 ?_
        refine g_goto 154 dX0_takesLeft_150 (by decide) ?_
        exact g_ireturn dX0_takesLeft_154 (by simp_all [lft, evn, bI]) rfl
  · refine g_iconst dX0_takesLeft_13 ic_1 ?_
    refine g_goto 18 dX0_takesLeft_14 (by decide) ?_
    refine g_istore dX0_takesLeft_18 (by decide) rfl ?_
    refine g_aload_n dX0_takesLeft_20 rfl ?_
    refine g_iload_n dX0_takesLeft_21 rfl ?_
    refine g_iconst dX0_takesLeft_22 ic_4 ?_
    refine g_callV2i (c_X0_dishFact (w := 4) hb hd (by decide)) mi_X0_dishFact mv_X0_dishFact ml_X0_43 dX0_takesLeft_23 hb.1 rfl (by decide) (Nat.le_of_ble_eq_true rfl) (Nat.le_of_ble_eq_true rfl) ?_
    refine g_iconst dX0_takesLeft_26 ic_2 ?_
    refine g_irem dX0_takesLeft_27 (by decide) ?_
    refine g_if_ne 35 dX0_takesLeft_28 (by decide) (fun c28 => ?_) (fun c28 => ?_)
    · refine g_iconst dX0_takesLeft_35 ic_0 ?_
      refine g_istore dX0_takesLeft_36 (by decide) rfl ?_
      refine g_aload_n dX0_takesLeft_38 rfl ?_
      refine g_iload_n dX0_takesLeft_39 rfl ?_
      refine g_iconst dX0_takesLeft_40 ic_0 ?_
      refine g_callV2i (c_X0_dishFact (w := 0) hb hd (by decide)) mi_X0_dishFact mv_X0_dishFact ml_X0_43 dX0_takesLeft_41 hb.1 rfl (by decide) (Nat.le_of_ble_eq_true rfl) (Nat.le_of_ble_eq_true rfl) ?_
      refine g_tswc (1) (1) (40) 84 dX0_takesLeft_44 (by decide) (by decide) (by decide) rfl (by decide) (fun c44 => ?_) (fun c44_0 n44_0 => ?_)
      · refine g_iload dX0_takesLeft_84 rfl ?_
        exact g_ireturn dX0_takesLeft_86 (by simp_all [lft, evn, bI]) rfl
      refine g_tswc (2) (2) (56) 100 dX0_takesLeft_44 (by decide) (by decide) (by decide) rfl (by decide) (fun c44 => ?_) (fun c44_1 n44_1 => ?_)
      · refine g_iload_n dX0_takesLeft_100 rfl ?_
        refine g_bipush dX0_takesLeft_101 bp_30 ?_
        refine g_icmp_ge 110 dX0_takesLeft_103 (by decide) (fun c103 => ?_) (fun c103 => ?_)
        · refine g_iconst dX0_takesLeft_110 ic_0 ?_
          exact g_ireturn dX0_takesLeft_111 (by simp_all [lft, evn, bI]) rfl
        · refine g_iconst dX0_takesLeft_106 ic_1 ?_
          refine g_goto 111 dX0_takesLeft_107 (by decide) ?_
          exact g_ireturn dX0_takesLeft_111 (by simp_all [lft, evn, bI]) rfl
      refine g_tswc (3) (3) (68) 112 dX0_takesLeft_44 (by decide) (by decide) (by decide) rfl (by decide) (fun c44 => ?_) (fun c44_2 n44_2 => ?_)
      · refine g_iload_n dX0_takesLeft_112 rfl ?_
        refine g_bipush dX0_takesLeft_113 bp_30 ?_
        refine g_icmp_lt 132 dX0_takesLeft_115 (by decide) (fun c115 => ?_) (fun c115 => ?_)
        · refine g_iconst dX0_takesLeft_132 ic_1 ?_
          refine g_goto 137 dX0_takesLeft_133 (by decide) ?_
          exact g_ireturn dX0_takesLeft_137 (by simp_all [lft, evn, bI]) rfl
        · refine g_aload_n dX0_takesLeft_118 rfl ?_
          refine g_iload_n dX0_takesLeft_119 rfl ?_
          refine g_aload_n dX0_takesLeft_120 rfl ?_
          refine g_iload_n dX0_takesLeft_121 rfl ?_
          refine g_iconst dX0_takesLeft_122 ic_2 ?_
          refine g_callV2i (c_X0_dishFact (w := 2) hb hd (by decide)) mi_X0_dishFact mv_X0_dishFact ml_X0_43 dX0_takesLeft_123 hb.1 rfl (by decide) (Nat.le_of_ble_eq_true rfl) (Nat.le_of_ble_eq_true rfl) ?_
          refine g_callV2i (c_X0_anotherIsFor hb hI he) mi_X0_anotherIsFor mv_X0_anotherIsFor ml_X0_60 dX0_takesLeft_126 hb.1 rfl (by decide) (Nat.le_of_ble_eq_true rfl) (Nat.le_of_ble_eq_true rfl) ?_
          refine g_if_eq 136 dX0_takesLeft_129 (by decide) (fun c129 => ?_) (fun c129 => ?_)
          · refine g_iconst dX0_takesLeft_136 ic_0 ?_
            exact g_ireturn dX0_takesLeft_137 (by simp_all [lft, evn, bI]) rfl
          · refine g_iconst dX0_takesLeft_132 ic_1 ?_
            refine g_goto 137 dX0_takesLeft_133 (by decide) ?_
            exact g_ireturn dX0_takesLeft_137 (by simp_all [lft, evn, bI]) rfl
      refine g_tswc (4) (4) (94) 138 dX0_takesLeft_44 (by decide) (by decide) (by decide) rfl (by decide) (fun c44 => ?_) (fun c44_3 n44_3 => ?_)
      · refine g_iload dX0_takesLeft_138 rfl ?_
        exact g_ireturn dX0_takesLeft_140 (by simp_all [lft, evn, bI]) rfl
      refine g_tswc (5) (5) (97) 141 dX0_takesLeft_44 (by decide) (by decide) (by decide) rfl (by decide) (fun c44 => ?_) (fun c44_4 n44_4 => ?_)
      · refine g_iconst dX0_takesLeft_141 ic_1 ?_
        exact g_ireturn dX0_takesLeft_142 (by simp_all [lft, evn, bI]) rfl
      refine g_tswc (6) (6) (43) 87 dX0_takesLeft_44 (by decide) (by decide) (by decide) rfl (by decide) (fun c44 => ?_) (fun c44_5 n44_5 => ?_)
      · refine g_iload dX0_takesLeft_87 rfl ?_
        refine g_iload dX0_takesLeft_89 rfl ?_
        refine g_icmp_ne 98 dX0_takesLeft_91 (by decide) (fun c91 => ?_) (fun c91 => ?_)
        · refine g_iconst dX0_takesLeft_98 ic_0 ?_
          exact g_ireturn dX0_takesLeft_99 (by simp_all [lft, evn, bI]) rfl
        · refine g_iconst dX0_takesLeft_94 ic_1 ?_
          refine g_goto 99 dX0_takesLeft_95 (by decide) ?_
          exact g_ireturn dX0_takesLeft_99 (by simp_all [lft, evn, bI]) rfl
      refine g_tswd 143 dX0_takesLeft_44 (by omega) (by decide) ?_
      refine g_iload_n dX0_takesLeft_143 rfl ?_
      refine g_bipush dX0_takesLeft_144 bp_50 ?_
      refine g_icmp_ge 153 dX0_takesLeft_146 (by decide) (fun c146 => ?_) (fun c146 => ?_)
      · refine g_iconst dX0_takesLeft_153 ic_0 ?_
        exact g_ireturn dX0_takesLeft_154 (by simp_all [lft, evn, bI]) rfl
      · refine g_iconst dX0_takesLeft_149 ic_1 ?_
        refine g_goto 154 dX0_takesLeft_150 (by decide) ?_
        exact g_ireturn dX0_takesLeft_154 (by simp_all [lft, evn, bI]) rfl
    · refine g_iconst dX0_takesLeft_31 ic_1 ?_
      refine g_goto 36 dX0_takesLeft_32 (by decide) ?_
      refine g_istore dX0_takesLeft_36 (by decide) rfl ?_
      refine g_aload_n dX0_takesLeft_38 rfl ?_
      refine g_iload_n dX0_takesLeft_39 rfl ?_
      refine g_iconst dX0_takesLeft_40 ic_0 ?_
      refine g_callV2i (c_X0_dishFact (w := 0) hb hd (by decide)) mi_X0_dishFact mv_X0_dishFact ml_X0_43 dX0_takesLeft_41 hb.1 rfl (by decide) (Nat.le_of_ble_eq_true rfl) (Nat.le_of_ble_eq_true rfl) ?_
      refine g_tswc (1) (1) (40) 84 dX0_takesLeft_44 (by decide) (by decide) (by decide) rfl (by decide) (fun c44 => ?_) (fun c44_0 n44_0 => ?_)
      · refine g_iload dX0_takesLeft_84 rfl ?_
        exact g_ireturn dX0_takesLeft_86 (by simp_all [lft, evn, bI]) rfl
      refine g_tswc (2) (2) (56) 100 dX0_takesLeft_44 (by decide) (by decide) (by decide) rfl (by decide) (fun c44 => ?_) (fun c44_1 n44_1 => ?_)
      · refine g_iload_n dX0_takesLeft_100 rfl ?_
        refine g_bipush dX0_takesLeft_101 bp_30 ?_
        refine g_icmp_ge 110 dX0_takesLeft_103 (by decide) (fun c103 => ?_) (fun c103 => ?_)
        · refine g_iconst dX0_takesLeft_110 ic_0 ?_
          exact g_ireturn dX0_takesLeft_111 (by simp_all [lft, evn, bI]) rfl
        · refine g_iconst dX0_takesLeft_106 ic_1 ?_
          refine g_goto 111 dX0_takesLeft_107 (by decide) ?_
          exact g_ireturn dX0_takesLeft_111 (by simp_all [lft, evn, bI]) rfl
      refine g_tswc (3) (3) (68) 112 dX0_takesLeft_44 (by decide) (by decide) (by decide) rfl (by decide) (fun c44 => ?_) (fun c44_2 n44_2 => ?_)
      · refine g_iload_n dX0_takesLeft_112 rfl ?_
        refine g_bipush dX0_takesLeft_113 bp_30 ?_
        refine g_icmp_lt 132 dX0_takesLeft_115 (by decide) (fun c115 => ?_) (fun c115 => ?_)
        · refine g_iconst dX0_takesLeft_132 ic_1 ?_
          refine g_goto 137 dX0_takesLeft_133 (by decide) ?_
          exact g_ireturn dX0_takesLeft_137 (by simp_all [lft, evn, bI]) rfl
        · refine g_aload_n dX0_takesLeft_118 rfl ?_
          refine g_iload_n dX0_takesLeft_119 rfl ?_
          refine g_aload_n dX0_takesLeft_120 rfl ?_
          refine g_iload_n dX0_takesLeft_121 rfl ?_
          refine g_iconst dX0_takesLeft_122 ic_2 ?_
          refine g_callV2i (c_X0_dishFact (w := 2) hb hd (by decide)) mi_X0_dishFact mv_X0_dishFact ml_X0_43 dX0_takesLeft_123 hb.1 rfl (by decide) (Nat.le_of_ble_eq_true rfl) (Nat.le_of_ble_eq_true rfl) ?_
          refine g_callV2i (c_X0_anotherIsFor hb hI he) mi_X0_anotherIsFor mv_X0_anotherIsFor ml_X0_60 dX0_takesLeft_126 hb.1 rfl (by decide) (Nat.le_of_ble_eq_true rfl) (Nat.le_of_ble_eq_true rfl) ?_
          refine g_if_eq 136 dX0_takesLeft_129 (by decide) (fun c129 => ?_) (fun c129 => ?_)
          · refine g_iconst dX0_takesLeft_136 ic_0 ?_
            exact g_ireturn dX0_takesLeft_137 (by simp_all [lft, evn, bI]) rfl
          · refine g_iconst dX0_takesLeft_132 ic_1 ?_
            refine g_goto 137 dX0_takesLeft_133 (by decide) ?_
            exact g_ireturn dX0_takesLeft_137 (by simp_all [lft, evn, bI]) rfl
      refine g_tswc (4) (4) (94) 138 dX0_takesLeft_44 (by decide) (by decide) (by decide) rfl (by decide) (fun c44 => ?_) (fun c44_3 n44_3 => ?_)
      · refine g_iload dX0_takesLeft_138 rfl ?_
        exact g_ireturn dX0_takesLeft_140 (by simp_all [lft, evn, bI]) rfl
      refine g_tswc (5) (5) (97) 141 dX0_takesLeft_44 (by decide) (by decide) (by decide) rfl (by decide) (fun c44 => ?_) (fun c44_4 n44_4 => ?_)
      · refine g_iconst dX0_takesLeft_141 ic_1 ?_
        exact g_ireturn dX0_takesLeft_142 (by simp_all [lft, evn, bI]) rfl
      refine g_tswc (6) (6) (43) 87 dX0_takesLeft_44 (by decide) (by decide) (by decide) rfl (by decide) (fun c44 => ?_) (fun c44_5 n44_5 => ?_)
      · refine g_iload dX0_takesLeft_87 rfl ?_
        refine g_iload dX0_takesLeft_89 rfl ?_
        refine g_icmp_ne 98 dX0_takesLeft_91 (by decide) (fun c91 => ?_) (fun c91 => ?_)
        · refine g_iconst dX0_takesLeft_98 ic_0 ?_
          exact g_ireturn dX0_takesLeft_99 (by simp_all [lft, evn, bI]) rfl
        · refine g_iconst dX0_takesLeft_94 ic_1 ?_
          refine g_goto 99 dX0_takesLeft_95 (by decide) ?_
          exact g_ireturn dX0_takesLeft_99 (by simp_all [lft, evn, bI]) rfl
      refine g_tswd 143 dX0_takesLeft_44 (by omega) (by decide) ?_
      refine g_iload_n dX0_takesLeft_143 rfl ?_
      refine g_bipush dX0_takesLeft_144 bp_50 ?_
      refine g_icmp_ge 153 dX0_takesLeft_146 (by decide) (fun c146 => ?_) (fun c146 => ?_)
      · refine g_iconst dX0_takesLeft_153 ic_0 ?_
        exact g_ireturn dX0_takesLeft_154 (by simp_all [lft, evn, bI]) rfl
      · refine g_iconst dX0_takesLeft_149 ic_1 ?_
        refine g_goto 154 dX0_takesLeft_150 (by decide) ?_
        exact g_ireturn dX0_takesLeft_154 (by simp_all [lft, evn, bI]) rfl

set_option maxRecDepth 100000 in
set_option maxHeartbeats 4000000 in
theorem c_X0_bendOf {X : Sc} {h : Hp} {k : Int32} {l : Bool} : Ct X yX0_bendOf cX0_bendOf 3 (some .int) 0 [.int k, .int (bI l)] h (some (.int (bnd k l))) h := by
  refine ⟨rfl, ?_⟩
  refine g_iload_n dX0_bendOf_0 rfl ?_
  refine g_if_eq 9 dX0_bendOf_1 (by decide) (fun c1 => ?_) (fun c1 => ?_)
  · refine g_iconst dX0_bendOf_9 ic_5 ?_
    refine g_istore_n dX0_bendOf_10 (by decide) rfl ?_
    refine g_iload_n dX0_bendOf_11 rfl ?_
    refine g_tswc (1) (1) (40) 52 dX0_bendOf_12 (by decide) (by decide) (by decide) rfl (by decide) (fun c12 => ?_) (fun c12_0 n12_0 => ?_)
    · refine g_iload_n dX0_bendOf_52 rfl ?_
      refine g_iconst dX0_bendOf_53 ic_1 ?_
      refine g_isub dX0_bendOf_54 ?_
      exact g_ireturn dX0_bendOf_55 (by simp_all [bnd, bI]) rfl
    refine g_tswc (2) (2) (46) 58 dX0_bendOf_12 (by decide) (by decide) (by decide) rfl (by decide) (fun c12 => ?_) (fun c12_1 n12_1 => ?_)
    · refine g_iconst dX0_bendOf_58 ic_2 ?_
      refine g_iload_n dX0_bendOf_59 rfl ?_
      refine g_imul dX0_bendOf_60 ?_
      exact g_ireturn dX0_bendOf_61 (by simp_all [bnd, bI]) rfl
    refine g_tswc (3) (3) (50) 62 dX0_bendOf_12 (by decide) (by decide) (by decide) rfl (by decide) (fun c12 => ?_) (fun c12_2 n12_2 => ?_)
    · refine g_iconst dX0_bendOf_62 ic_2 ?_
      refine g_iload_n dX0_bendOf_63 rfl ?_
      refine g_imul dX0_bendOf_64 ?_
      refine g_iconst dX0_bendOf_65 ic_3 ?_
      refine g_iadd dX0_bendOf_66 ?_
      exact g_ireturn dX0_bendOf_67 (by simp_all [bnd, bI]) rfl
    refine g_tswc (4) (4) (56) 68 dX0_bendOf_12 (by decide) (by decide) (by decide) rfl (by decide) (fun c12 => ?_) (fun c12_3 n12_3 => ?_)
    · refine g_bipush dX0_bendOf_68 bp_m2 ?_
      refine g_iload_n dX0_bendOf_70 rfl ?_
      refine g_imul dX0_bendOf_71 ?_
      refine g_iconst dX0_bendOf_72 ic_3 ?_
      refine g_iadd dX0_bendOf_73 ?_
      exact g_ireturn dX0_bendOf_74 (by simp_all [bnd, bI]) rfl
    refine g_tswc (5) (5) (63) 75 dX0_bendOf_12 (by decide) (by decide) (by decide) rfl (by decide) (fun c12 => ?_) (fun c12_4 n12_4 => ?_)
    · refine g_iconst dX0_bendOf_75 ic_0 ?_
      exact g_ireturn dX0_bendOf_76 (by simp_all [bnd, bI]) rfl
    refine g_tswc (6) (6) (44) 56 dX0_bendOf_12 (by decide) (by decide) (by decide) rfl (by decide) (fun c12 => ?_) (fun c12_5 n12_5 => ?_)
    · refine g_iconst dX0_bendOf_56 ic_1 ?_
      exact g_ireturn dX0_bendOf_57 (by simp_all [bnd, bI]) rfl
    refine g_tswd 77 dX0_bendOf_12 (by omega) (by decide) ?_
    refine g_iload_n dX0_bendOf_77 rfl ?_
    exact g_ireturn dX0_bendOf_78 (by simp_all [bnd, bI]) rfl
  · refine g_bipush dX0_bendOf_4 bp_m5 ?_
    refine g_goto 10 dX0_bendOf_6 (by decide) ?_
    refine g_istore_n dX0_bendOf_10 (by decide) rfl ?_
    refine g_iload_n dX0_bendOf_11 rfl ?_
    refine g_tswc (1) (1) (40) 52 dX0_bendOf_12 (by decide) (by decide) (by decide) rfl (by decide) (fun c12 => ?_) (fun c12_0 n12_0 => ?_)
    · refine g_iload_n dX0_bendOf_52 rfl ?_
      refine g_iconst dX0_bendOf_53 ic_1 ?_
      refine g_isub dX0_bendOf_54 ?_
      exact g_ireturn dX0_bendOf_55 (by simp_all [bnd, bI]) rfl
    refine g_tswc (2) (2) (46) 58 dX0_bendOf_12 (by decide) (by decide) (by decide) rfl (by decide) (fun c12 => ?_) (fun c12_1 n12_1 => ?_)
    · refine g_iconst dX0_bendOf_58 ic_2 ?_
      refine g_iload_n dX0_bendOf_59 rfl ?_
      refine g_imul dX0_bendOf_60 ?_
      exact g_ireturn dX0_bendOf_61 (by simp_all [bnd, bI]) rfl
    refine g_tswc (3) (3) (50) 62 dX0_bendOf_12 (by decide) (by decide) (by decide) rfl (by decide) (fun c12 => ?_) (fun c12_2 n12_2 => ?_)
    · refine g_iconst dX0_bendOf_62 ic_2 ?_
      refine g_iload_n dX0_bendOf_63 rfl ?_
      refine g_imul dX0_bendOf_64 ?_
      refine g_iconst dX0_bendOf_65 ic_3 ?_
      refine g_iadd dX0_bendOf_66 ?_
      exact g_ireturn dX0_bendOf_67 (by simp_all [bnd, bI]) rfl
    refine g_tswc (4) (4) (56) 68 dX0_bendOf_12 (by decide) (by decide) (by decide) rfl (by decide) (fun c12 => ?_) (fun c12_3 n12_3 => ?_)
    · refine g_bipush dX0_bendOf_68 bp_m2 ?_
      refine g_iload_n dX0_bendOf_70 rfl ?_
      refine g_imul dX0_bendOf_71 ?_
      refine g_iconst dX0_bendOf_72 ic_3 ?_
      refine g_iadd dX0_bendOf_73 ?_
      exact g_ireturn dX0_bendOf_74 (by simp_all [bnd, bI]) rfl
    refine g_tswc (5) (5) (63) 75 dX0_bendOf_12 (by decide) (by decide) (by decide) rfl (by decide) (fun c12 => ?_) (fun c12_4 n12_4 => ?_)
    · refine g_iconst dX0_bendOf_75 ic_0 ?_
      exact g_ireturn dX0_bendOf_76 (by simp_all [bnd, bI]) rfl
    refine g_tswc (6) (6) (44) 56 dX0_bendOf_12 (by decide) (by decide) (by decide) rfl (by decide) (fun c12 => ?_) (fun c12_5 n12_5 => ?_)
    · refine g_iconst dX0_bendOf_56 ic_1 ?_
      exact g_ireturn dX0_bendOf_57 (by simp_all [bnd, bI]) rfl
    refine g_tswd 77 dX0_bendOf_12 (by omega) (by decide) ?_
    refine g_iload_n dX0_bendOf_77 rfl ?_
    exact g_ireturn dX0_bendOf_78 (by simp_all [bnd, bI]) rfl

theorem In.price {m : Rw} (h : In m) {d : Nat} (hd : d < 8) : (if dF m d 3 - 2 < 0 then 0 else dF m d 3 - 2) = if 2 < dF m d 3 then dF m d 3 - 2 else (0 : Int32) := by
  obtain ⟨x, hx, e⟩ := h.d hd (w := 3) (by decide)
  rw [e]
  have hx : x ≤ 99 := hx
  have : ∀ x, x ≤ 99 → (if nI x - 2 < 0 then 0 else nI x - 2) = if 2 < nI x then nI x - 2 else (0 : Int32) := by decide +kernel
  exact this x hx
set_option maxRecDepth 100000 in
set_option maxHeartbeats 4000000 in
theorem c_X0_costOf {X : Sc} {h : Hp} {b g : Nat} (hb : InnAt b g) (hI : In (h g)) {e d : Nat} (he : e < 6) (hd : d < 8) {l : Bool} : Ct X yX0_costOf cX0_costOf 6 (some .int) 1 [.ref b, .int (nI e), .int (nI d), .int (bI l)] h (some (.int (cst (h g) e d l))) h := by
  refine ⟨rfl, ?_⟩
  refine g_aload_n dX0_costOf_0 rfl ?_
  refine g_iload_n dX0_costOf_1 rfl ?_
  refine g_iconst dX0_costOf_2 ic_3 ?_
  refine g_callV2i (c_X0_dishFact (w := 3) hb hd (by decide)) mi_X0_dishFact mv_X0_dishFact ml_X0_43 dX0_costOf_3 hb.1 rfl (by decide) (Nat.le_of_ble_eq_true rfl) (Nat.le_of_ble_eq_true rfl) ?_
  refine g_istore dX0_costOf_6 (by decide) rfl ?_
  refine g_iload dX0_costOf_8 rfl ?_
  refine g_aload_n dX0_costOf_10 rfl ?_
  refine g_iload_n dX0_costOf_11 rfl ?_
  refine g_iconst dX0_costOf_12 ic_0 ?_
  refine g_callV2i (c_X0_guestFact (w := 0) hb he (by decide)) mi_X0_guestFact mv_X0_guestFact ml_X0_57 dX0_costOf_13 hb.1 rfl (by decide) (Nat.le_of_ble_eq_true rfl) (Nat.le_of_ble_eq_true rfl) ?_
  refine g_bipush dX0_costOf_16 bp_10 ?_
  refine g_idiv dX0_costOf_18 (by decide) ?_
  refine g_iadd dX0_costOf_19 ?_
  refine g_istore dX0_costOf_20 (by decide) rfl ?_
  refine g_aload_n dX0_costOf_22 rfl ?_
  refine g_iload_n dX0_costOf_23 rfl ?_
  refine g_iconst dX0_costOf_24 ic_0 ?_
  refine g_callV2i (c_X0_dishFact (w := 0) hb hd (by decide)) mi_X0_dishFact mv_X0_dishFact ml_X0_43 dX0_costOf_25 hb.1 rfl (by decide) (Nat.le_of_ble_eq_true rfl) (Nat.le_of_ble_eq_true rfl) ?_
  refine g_tswc (1) (1) (40) 68 dX0_costOf_28 (by decide) (by decide) (by decide) rfl (by decide) (fun c28 => ?_) (fun c28_0 n28_0 => ?_)
  · refine g_iload dX0_costOf_68 rfl ?_
    refine g_iconst dX0_costOf_70 ic_2 ?_
    refine g_isub dX0_costOf_71 ?_
    refine g_iconst dX0_costOf_72 ic_0 ?_
    refine g_max dX0_costOf_73 ml_X0_64 mm_maxS mm_I mm_maxC (by decide) (Nat.le_of_ble_eq_true rfl) ?_
    exact g_ireturn dX0_costOf_76 (by rw [hI.price hd]; simp_all [cst]) rfl
  refine g_tswc (2) (2) (51) 79 dX0_costOf_28 (by decide) (by decide) (by decide) rfl (by decide) (fun c28 => ?_) (fun c28_1 n28_1 => ?_)
  · refine g_iload dX0_costOf_79 rfl ?_
    exact g_ireturn dX0_costOf_81 (by simp_all [cst, bI]) rfl
  refine g_tswc (3) (3) (54) 82 dX0_costOf_28 (by decide) (by decide) (by decide) rfl (by decide) (fun c28 => ?_) (fun c28_2 n28_2 => ?_)
  · refine g_iconst dX0_costOf_82 ic_2 ?_
    refine g_iload dX0_costOf_83 rfl ?_
    refine g_imul dX0_costOf_85 ?_
    exact g_ireturn dX0_costOf_86 (by simp_all [cst, bI]) rfl
  refine g_tswc (4) (4) (59) 87 dX0_costOf_28 (by decide) (by decide) (by decide) rfl (by decide) (fun c28 => ?_) (fun c28_3 n28_3 => ?_)
  · refine g_iload_n dX0_costOf_87 rfl ?_
    refine g_if_eq 98 dX0_costOf_88 (by decide) (fun c88 => ?_) (fun c88 => ?_)
    · refine g_iload dX0_costOf_98 rfl ?_
      exact g_ireturn dX0_costOf_100 (by simp_all [cst, bI]) rfl
    · refine g_iconst dX0_costOf_91 ic_2 ?_
      refine g_iload dX0_costOf_92 rfl ?_
      refine g_imul dX0_costOf_94 ?_
      refine g_goto 100 dX0_costOf_95 (by decide) ?_
      exact g_ireturn dX0_costOf_100 (by simp_all [cst, bI]) rfl
  refine g_tswc (5) (5) (73) 101 dX0_costOf_28 (by decide) (by decide) (by decide) rfl (by decide) (fun c28 => ?_) (fun c28_4 n28_4 => ?_)
  · refine g_iload dX0_costOf_101 rfl ?_
    exact g_ireturn dX0_costOf_103 (by simp_all [cst, bI]) rfl
  refine g_tswc (6) (6) (49) 77 dX0_costOf_28 (by decide) (by decide) (by decide) rfl (by decide) (fun c28 => ?_) (fun c28_5 n28_5 => ?_)
  · refine g_iconst dX0_costOf_77 ic_1 ?_
    exact g_ireturn dX0_costOf_78 (by simp_all [cst, bI]) rfl
  refine g_tswd 101 dX0_costOf_28 (by omega) (by decide) ?_
  refine g_iload dX0_costOf_101 rfl ?_
  exact g_ireturn dX0_costOf_103 (by simp_all [cst, bI]) rfl

set_option maxRecDepth 100000 in
set_option maxHeartbeats 4000000 in
theorem c_X0_townOf {X : Sc} {h : Hp} {b g : Nat} (hb : InnAt b g) {d : Nat} (hd : d < 8) {l : Bool} : Ct X yX0_townOf cX0_townOf 3 (some .int) 1 [.ref b, .int (nI d), .int (bI l)] h (some (.int (twn (h g) d l))) h := by
  refine ⟨rfl, ?_⟩
  refine g_aload_n dX0_townOf_0 rfl ?_
  refine g_iload_n dX0_townOf_1 rfl ?_
  refine g_iload_n dX0_townOf_2 rfl ?_
  refine g_if_eq 10 dX0_townOf_3 (by decide) (fun c3 => ?_) (fun c3 => ?_)
  · have el : l = false := by cases l <;> simp_all [bI]
    subst el
    refine g_iconst dX0_townOf_10 ic_2 ?_
    skip
    first
    | refine g_callV2i (c_X0_dishFact (w := 1) hb hd (by decide)) mi_X0_dishFact mv_X0_dishFact ml_X0_43 dX0_townOf_11 hb.1 rfl (by decide) (Nat.le_of_ble_eq_true rfl) (Nat.le_of_ble_eq_true rfl) ?_
    | refine g_callV2i (c_X0_dishFact (w := 2) hb hd (by decide)) mi_X0_dishFact mv_X0_dishFact ml_X0_43 dX0_townOf_11 hb.1 rfl (by decide) (Nat.le_of_ble_eq_true rfl) (Nat.le_of_ble_eq_true rfl) ?_
    exact g_ireturn dX0_townOf_14 rfl rfl
  · have el : l = true := by cases l <;> simp_all [bI]
    subst el
    refine g_iconst dX0_townOf_6 ic_1 ?_
    refine g_goto 11 dX0_townOf_7 (by decide) ?_
    skip
    first
    | refine g_callV2i (c_X0_dishFact (w := 1) hb hd (by decide)) mi_X0_dishFact mv_X0_dishFact ml_X0_43 dX0_townOf_11 hb.1 rfl (by decide) (Nat.le_of_ble_eq_true rfl) (Nat.le_of_ble_eq_true rfl) ?_
    | refine g_callV2i (c_X0_dishFact (w := 2) hb hd (by decide)) mi_X0_dishFact mv_X0_dishFact ml_X0_43 dX0_townOf_11 hb.1 rfl (by decide) (Nat.le_of_ble_eq_true rfl) (Nat.le_of_ble_eq_true rfl) ?_
    exact g_ireturn dX0_townOf_14 rfl rfl

theorem mx_hld (x : Int32) : (if (0 : Int32) < (if x < 99 then x else 99) then (if x < 99 then x else 99) else 0) = hld x 0 99 := by
  unfold hld
  by_cases h1 : x < 0
  · rw [if_pos h1]
    rw [if_pos (Int32.lt_trans h1 (by decide)), if_neg (Int32.not_lt.mpr (Int32.le_of_lt h1))]
  · rw [if_neg h1]
    by_cases h2 : x < 99
    · rw [if_pos h2, if_neg (Int32.not_lt.mpr (Int32.le_of_lt h2))]
      by_cases h3 : (0 : Int32) < x
      · rw [if_pos h3]
      · rw [if_neg h3]
        exact Int32.le_antisymm (Int32.not_lt.mp h1) (Int32.not_lt.mp h3)
    · rw [if_neg h2, if_pos (by decide)]
      by_cases h3 : (99 : Int32) < x
      · rw [if_pos h3]
      · rw [if_neg h3]
        exact Int32.le_antisymm (Int32.not_lt.mp h2) (Int32.not_lt.mp h3)
/-- what grew stays within, if it was not below 0 -/
theorem mn_hld {x t : Int32} (h : ¬ x < 0) : (if x < t then x else t) = hld x 0 t := by
  unfold hld
  rw [if_neg h]
  by_cases h2 : x < t
  · rw [if_pos h2, if_neg (Int32.not_lt.mpr (Int32.le_of_lt h2))]
  · rw [if_neg h2]
    by_cases h3 : t < x
    · rw [if_pos h3]
    · rw [if_neg h3]
      exact Int32.le_antisymm (Int32.not_lt.mp h2) (Int32.not_lt.mp h3)
set_option maxRecDepth 100000 in
set_option maxHeartbeats 4000000 in
theorem c_X0_bendGuest {X : Sc} {h : Hp} {b g : Nat} (hb : InnAt b g) {e : Nat} (he : e < 6) {x : Int32} : Ct X yX0_bendGuest cX0_bendGuest 4 none 1 [.ref b, .int (nI e), .int x] h none (setg h g (pG (h g) e 0 (hld (gF (h g) e 0 + x) 0 99))) := by
  refine ⟨trivial, ?_⟩
  refine g_aload_n dX0_bendGuest_0 rfl ?_
  refine g_iload_n dX0_bendGuest_1 rfl ?_
  refine g_iconst dX0_bendGuest_2 ic_0 ?_
  refine g_callV2i (c_X0_guestFact (w := 0) hb he (by decide)) mi_X0_guestFact mv_X0_guestFact ml_X0_57 dX0_bendGuest_3 hb.1 rfl (by decide) (Nat.le_of_ble_eq_true rfl) (Nat.le_of_ble_eq_true rfl) ?_
  refine g_iload_n dX0_bendGuest_6 rfl ?_
  refine g_iadd dX0_bendGuest_7 ?_
  refine g_istore_n dX0_bendGuest_8 (by decide) rfl ?_
  refine g_aload_n dX0_bendGuest_9 rfl ?_
  refine g_iload_n dX0_bendGuest_10 rfl ?_
  refine g_iconst dX0_bendGuest_11 ic_0 ?_
  refine g_iconst dX0_bendGuest_12 ic_0 ?_
  refine g_bipush dX0_bendGuest_13 bp_99 ?_
  refine g_iload_n dX0_bendGuest_15 rfl ?_
  refine g_min dX0_bendGuest_16 ml_X0_69 mm_minS mm_I mm_minC (by decide) (Nat.le_of_ble_eq_true rfl) ?_
  refine g_max dX0_bendGuest_19 ml_X0_64 mm_maxS mm_I mm_maxC (by decide) (Nat.le_of_ble_eq_true rfl) ?_
  refine g_callV3v (c_X0_putGuestFact (w := 0) hb he (by decide)) mi_X0_putGuestFact mv_X0_putGuestFact ml_X0_51 dX0_bendGuest_22 hb.1 rfl (by decide) (Nat.le_of_ble_eq_true rfl) (Nat.le_of_ble_eq_true rfl) ?_
  exact g_return dX0_bendGuest_25 rfl (by rw [mx_hld])

set_option maxRecDepth 100000 in
set_option maxHeartbeats 4000000 in
theorem c_X0_serveOnce {X : Sc} {h : Hp} {b g : Nat} (hb : InnAt b g) {d : Nat} (hd : d < 8) (hp : ¬ dF (h g) d 4 + 1 < 0) : Ct X yX0_serveOnce cX0_serveOnce 2 none 1 [.ref b, .int (nI d)] h none (setg h g (pD (h g) d 4 (hld (dF (h g) d 4 + 1) 0 9999))) := by
  refine ⟨trivial, ?_⟩
  refine g_aload_n dX0_serveOnce_0 rfl ?_
  refine g_iload_n dX0_serveOnce_1 rfl ?_
  refine g_iconst dX0_serveOnce_2 ic_4 ?_
  refine g_sipush dX0_serveOnce_3 sp_9999 ?_
  refine g_aload_n dX0_serveOnce_6 rfl ?_
  refine g_iload_n dX0_serveOnce_7 rfl ?_
  refine g_iconst dX0_serveOnce_8 ic_4 ?_
  refine g_callV2i (c_X0_dishFact (w := 4) hb hd (by decide)) mi_X0_dishFact mv_X0_dishFact ml_X0_43 dX0_serveOnce_9 hb.1 rfl (by decide) (Nat.le_of_ble_eq_true rfl) (Nat.le_of_ble_eq_true rfl) ?_
  refine g_iconst dX0_serveOnce_12 ic_1 ?_
  refine g_iadd dX0_serveOnce_13 ?_
  refine g_min dX0_serveOnce_14 ml_X0_69 mm_minS mm_I mm_minC (by decide) (Nat.le_of_ble_eq_true rfl) ?_
  refine g_callV3v (c_X0_putDishFact (w := 4) hb hd (by decide)) mi_X0_putDishFact mv_X0_putDishFact ml_X0_47 dX0_serveOnce_17 hb.1 rfl (by decide) (Nat.le_of_ble_eq_true rfl) (Nat.le_of_ble_eq_true rfl) ?_
  exact g_return dX0_serveOnce_20 rfl (by rw [mn_hld hp])

theorem gF_pG (m : Rw) (e w : Nat) (v : Int32) : gF (pG m e w v) e w = v := upd_s _ _ _
theorem gF_pGn (m : Rw) (e : Nat) {w w2 : Nat} (v : Int32) (n : w2 ≠ w) : gF (pG m e w v) e w2 = gF m e w2 := upd_n _ _ (by omega)
theorem gF_pGo (m : Rw) {e e2 w w2 : Nat} (v : Int32) (hw : w < 5) (hw2 : w2 < 5) (n : e2 ≠ e) : gF (pG m e w v) e2 w2 = gF m e2 w2 := upd_n _ _ (by omega)
theorem dF_pG (m : Rw) (e w : Nat) {d w2 : Nat} (v : Int32) (hd : d < 8) (hw : w2 < 6) : dF (pG m e w v) d w2 = dF m d w2 := upd_n _ _ (by omega)
theorem gF_pD (m : Rw) {d w e w2 : Nat} (v : Int32) (hd : d < 8) (hw : w < 6) : gF (pD m d w v) e w2 = gF m e w2 := upd_n _ _ (by omega)
theorem dF_pD (m : Rw) (d w : Nat) (v : Int32) : dF (pD m d w v) d w = v := upd_s _ _ _
theorem dF_pDn (m : Rw) (d : Nat) {w w2 : Nat} (v : Int32) (n : w2 ≠ w) : dF (pD m d w v) d w2 = dF m d w2 := upd_n _ _ (by omega)
theorem dF_pDo (m : Rw) {d d2 w w2 : Nat} (v : Int32) (hw : w < 6) (hw2 : w2 < 6) (n : d2 ≠ d) : dF (pD m d w v) d2 w2 = dF m d2 w2 := upd_n _ _ (by omega)
theorem pG_c (m : Rw) (e : Nat) {w w2 : Nat} (v v2 : Int32) (n : w ≠ w2) : pG (pG m e w v) e w2 v2 = pG (pG m e w2 v2) e w v := upd_c _ (by omega) _ _
theorem In.posD {m : Rw} (h : In m) {d : Nat} (hd : d < 8) : ¬ dF m d 4 + 1 < 0 := by
  obtain ⟨x, hx, ex⟩ := h.d hd (w := 4) (by decide)
  have hx : x ≤ 9999 := hx
  rw [ex, nI_1]; exact nI_pos (by omega)
theorem In.posE {m : Rw} (h : In m) {e : Nat} (he : e < 6) : ¬ gF m e 4 + 1 < 0 := by
  obtain ⟨x, hx, ex⟩ := h.g he (w := 4) (by decide)
  have hx : x ≤ 9999 := hx
  rw [ex, nI_1]; exact nI_pos (by omega)
theorem In.cst {m : Rw} (h : In m) {e d : Nat} (he : e < 6) (hd : d < 8) (l : Bool) : ∃ x, x ≤ 216 ∧ cst m e d l = nI x := by
  obtain ⟨p, hp, ep⟩ := h.d hd (w := 3) (by decide)
  obtain ⟨q, hq, eq⟩ := h.g he (w := 0) (by decide)
  have hp : p ≤ 99 := hp
  have hq : q ≤ 99 := hq
  have e10 : nI q / 10 = nI (q / 10) := pk_div (d := 10) (by omega) (by decide) (by decide)
  have er : dF m d 3 + gF m e 0 / 10 = nI (p + q / 10) := by rw [ep, eq, e10, nI_add]
  have e2 : 2 * (dF m d 3 + gF m e 0 / 10) = nI (2 * (p + q / 10)) := by rw [er, show (2 : Int32) = nI 2 from rfl, pk_mul]
  unfold Jvm.Pilot.CForkInnLaw_law_r3082_bfc7c5.cst
  by_cases k1 : dF m d 0 = 1
  · rw [if_pos k1]
    have : ∀ p, p ≤ 99 → ∃ x, x ≤ 216 ∧ (if 2 < nI p then nI p - 2 else 0) = nI x := by
      intro p hp
      by_cases c : 2 < p
      · refine ⟨p - 2, by omega, ?_⟩
        rw [if_pos (show (2 : Int32) < nI p from nI_lt (a := 2) c (by omega)), show (2 : Int32) = nI 2 from rfl, pk_sub (by omega)]
      · refine ⟨0, by omega, ?_⟩
        rw [if_neg (show ¬ (2 : Int32) < nI p from nI_nlt (a := 2) (by omega) (by decide))]; rfl
    rw [ep]
    exact this p hp
  · rw [if_neg k1]
    by_cases k2 : dF m d 0 = 6
    · rw [if_pos k2]; exact ⟨1, by omega, rfl⟩
    · rw [if_neg k2]
      by_cases k3 : dF m d 0 = 2
      · rw [if_pos k3]; exact ⟨_, by omega, er⟩
      · rw [if_neg k3]
        by_cases k4 : dF m d 0 = 3
        · rw [if_pos k4]; exact ⟨_, by omega, e2⟩
        · rw [if_neg k4]
          by_cases k5 : dF m d 0 = 4
          · rw [if_pos k5]
            cases l
            · exact ⟨_, by omega, er⟩
            · exact ⟨_, by omega, e2⟩
          · rw [if_neg k5]; exact ⟨p, by omega, ep⟩
theorem In.posB {m : Rw} (h : In m) {e d : Nat} (he : e < 6) (hd : d < 8) (l : Bool) : ¬ gF m e 2 + Jvm.Pilot.CForkInnLaw_law_r3082_bfc7c5.cst m e d l < 0 := by
  obtain ⟨x, hx, ex⟩ := h.g he (w := 2) (by decide)
  have hx : x ≤ 99999 := hx
  obtain ⟨y, hy, ey⟩ := h.cst he hd l
  rw [ex, ey, nI_add]; exact nI_pos (by omega)
set_option maxRecDepth 100000 in
set_option maxHeartbeats 4000000 in
theorem c_X0_haveMeal {X : Sc} {h : Hp} {b g : Nat} (hb : InnAt b g) (hI : In (h g)) {e d : Nat} (he : e < 6) (hd : d < 8) : Ct X yX0_haveMeal cX0_haveMeal 6 none 2 [.ref b, .int (nI e), .int (nI d)] h none (setg h g (eatR (h g) e d)) := by
  refine ⟨trivial, ?_⟩
  refine g_aload_n dX0_haveMeal_0 rfl ?_
  refine g_iload_n dX0_haveMeal_1 rfl ?_
  refine g_iload_n dX0_haveMeal_2 rfl ?_
  refine g_callV2i (c_X0_takesLeft hb hI he hd) mi_X0_takesLeft mv_X0_takesLeft ml_X0_72 dX0_haveMeal_3 hb.1 rfl (by decide) (Nat.le_of_ble_eq_true rfl) (Nat.le_of_ble_eq_true rfl) ?_
  refine g_istore_n dX0_haveMeal_6 (by decide) rfl ?_
  refine g_aload_n dX0_haveMeal_7 rfl ?_
  refine g_iload_n dX0_haveMeal_8 rfl ?_
  refine g_iload_n dX0_haveMeal_9 rfl ?_
  refine g_callV2i (c_X0_townOf hb hd) mi_X0_townOf mv_X0_townOf ml_X0_75 dX0_haveMeal_10 hb.1 rfl (by decide) (Nat.le_of_ble_eq_true rfl) (Nat.le_of_ble_eq_true rfl) ?_
  refine g_istore dX0_haveMeal_13 (by decide) rfl ?_
  refine g_aload_n dX0_haveMeal_15 rfl ?_
  refine g_iload_n dX0_haveMeal_16 rfl ?_
  refine g_iconst dX0_haveMeal_17 ic_2 ?_
  refine g_callV2i (c_X0_guestFact (w := 2) hb he (by decide)) mi_X0_guestFact mv_X0_guestFact ml_X0_57 dX0_haveMeal_18 hb.1 rfl (by decide) (Nat.le_of_ble_eq_true rfl) (Nat.le_of_ble_eq_true rfl) ?_
  refine g_aload_n dX0_haveMeal_21 rfl ?_
  refine g_iload_n dX0_haveMeal_22 rfl ?_
  refine g_iload_n dX0_haveMeal_23 rfl ?_
  refine g_iload_n dX0_haveMeal_24 rfl ?_
  refine g_callV3i (c_X0_costOf hb hI he hd) mi_X0_costOf mv_X0_costOf ml_X0_79 dX0_haveMeal_25 hb.1 rfl (by decide) (Nat.le_of_ble_eq_true rfl) (Nat.le_of_ble_eq_true rfl) ?_
  refine g_iadd dX0_haveMeal_28 ?_
  refine g_istore dX0_haveMeal_29 (by decide) rfl ?_
  refine g_aload_n dX0_haveMeal_31 rfl ?_
  refine g_iload_n dX0_haveMeal_32 rfl ?_
  refine g_iconst dX0_haveMeal_33 ic_1 ?_
  refine g_iload dX0_haveMeal_34 rfl ?_
  refine g_callV3v (c_X0_putGuestFact (w := 1) hb he (by decide)) mi_X0_putGuestFact mv_X0_putGuestFact ml_X0_51 dX0_haveMeal_36 hb.1 rfl (by decide) (Nat.le_of_ble_eq_true rfl) (Nat.le_of_ble_eq_true rfl) ?_
  refine g_aload_n dX0_haveMeal_39 rfl ?_
  refine g_iload_n dX0_haveMeal_40 rfl ?_
  refine g_iconst dX0_haveMeal_41 ic_3 ?_
  refine g_aload_n dX0_haveMeal_42 rfl ?_
  refine g_iload_n dX0_haveMeal_43 rfl ?_
  refine g_iconst dX0_haveMeal_44 ic_3 ?_
  refine g_callV2i (c_X0_guestFact (w := 3) hb he (by decide)) mi_X0_guestFact mv_X0_guestFact ml_X0_57 dX0_haveMeal_45 hb.1 rfl (by decide) (Nat.le_of_ble_eq_true rfl) (Nat.le_of_ble_eq_true rfl) ?_
  refine g_iconst dX0_haveMeal_48 ic_1 ?_
  refine g_iload dX0_haveMeal_49 rfl ?_
  refine g_ishl dX0_haveMeal_51 ?_
  refine g_ior dX0_haveMeal_52 ?_
  refine g_callV3v (c_X0_putGuestFact (w := 3) hb he (by decide)) mi_X0_putGuestFact mv_X0_putGuestFact ml_X0_51 dX0_haveMeal_53 hb.1 rfl (by decide) (Nat.le_of_ble_eq_true rfl) (Nat.le_of_ble_eq_true rfl) ?_
  refine g_aload_n dX0_haveMeal_56 rfl ?_
  refine g_iload_n dX0_haveMeal_57 rfl ?_
  refine g_iconst dX0_haveMeal_58 ic_2 ?_
  refine g_ldc dX0_haveMeal_59 lc_X0_83 ?_
  refine g_iload dX0_haveMeal_61 rfl ?_
  refine g_min dX0_haveMeal_63 ml_X0_69 mm_minS mm_I mm_minC (by decide) (Nat.le_of_ble_eq_true rfl) ?_
  refine g_callV3v (c_X0_putGuestFact (w := 2) hb he (by decide)) mi_X0_putGuestFact mv_X0_putGuestFact ml_X0_51 dX0_haveMeal_66 hb.1 rfl (by decide) (Nat.le_of_ble_eq_true rfl) (Nat.le_of_ble_eq_true rfl) ?_
  refine g_aload_n dX0_haveMeal_69 rfl ?_
  refine g_iload_n dX0_haveMeal_70 rfl ?_
  refine g_iconst dX0_haveMeal_71 ic_4 ?_
  refine g_sipush dX0_haveMeal_72 sp_9999 ?_
  refine g_aload_n dX0_haveMeal_75 rfl ?_
  refine g_iload_n dX0_haveMeal_76 rfl ?_
  refine g_iconst dX0_haveMeal_77 ic_4 ?_
  refine g_callV2i (c_X0_guestFact (w := 4) hb he (by decide)) mi_X0_guestFact mv_X0_guestFact ml_X0_57 dX0_haveMeal_78 hb.1 rfl (by decide) (Nat.le_of_ble_eq_true rfl) (Nat.le_of_ble_eq_true rfl) ?_
  refine g_iconst dX0_haveMeal_81 ic_1 ?_
  refine g_iadd dX0_haveMeal_82 ?_
  refine g_min dX0_haveMeal_83 ml_X0_69 mm_minS mm_I mm_minC (by decide) (Nat.le_of_ble_eq_true rfl) ?_
  refine g_callV3v (c_X0_putGuestFact (w := 4) hb he (by decide)) mi_X0_putGuestFact mv_X0_putGuestFact ml_X0_51 dX0_haveMeal_86 hb.1 rfl (by decide) (Nat.le_of_ble_eq_true rfl) (Nat.le_of_ble_eq_true rfl) ?_
  refine g_aload_n dX0_haveMeal_89 rfl ?_
  refine g_iload_n dX0_haveMeal_90 rfl ?_
  refine g_aload_n dX0_haveMeal_91 rfl ?_
  refine g_iload_n dX0_haveMeal_92 rfl ?_
  refine g_iconst dX0_haveMeal_93 ic_0 ?_
  refine g_callV2i (c_X0_dishFact (w := 0) hb hd (by decide)) mi_X0_dishFact mv_X0_dishFact ml_X0_43 dX0_haveMeal_94 hb.1 rfl (by decide) (Nat.le_of_ble_eq_true rfl) (Nat.le_of_ble_eq_true rfl) ?_
  refine g_iload_n dX0_haveMeal_97 rfl ?_
  refine g_callS2i (c_X0_bendOf) mi_X0_bendOf ms_X0_bendOf ml_X0_84 dX0_haveMeal_98 (by decide) (Nat.le_of_ble_eq_true rfl) (Nat.le_of_ble_eq_true rfl) ?_
  refine g_callV2v (c_X0_bendGuest hb he) mi_X0_bendGuest mv_X0_bendGuest ml_X0_87 dX0_haveMeal_101 hb.1 rfl (by decide) (Nat.le_of_ble_eq_true rfl) (Nat.le_of_ble_eq_true rfl) ?_
  refine g_aload_n dX0_haveMeal_104 rfl ?_
  refine g_iload_n dX0_haveMeal_105 rfl ?_
  refine g_callV1v (c_X0_serveOnce hb hd (by simp [setg_s, dF_pG, hd, hI.posD hd])) mi_X0_serveOnce mv_X0_serveOnce ml_X0_91 dX0_haveMeal_106 hb.1 rfl (by decide) (Nat.le_of_ble_eq_true rfl) (Nat.le_of_ble_eq_true rfl) ?_
  exact g_return dX0_haveMeal_109 rfl (by simp only [setg_s, setg_2]; congr 1; simp [gF_pGn, dF_pG, hd, mn_hld (hI.posB he hd _), mn_hld (hI.posE he)]; unfold eatR; rw [pG_c _ _ _ _ (show 3 ≠ 2 by decide), pG_c _ _ _ _ (show 1 ≠ 2 by decide)])

