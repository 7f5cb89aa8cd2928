/-! SHEETS, SPOTS, THE TAPE, IMAGES: the class -/
def oG (g fg : Nat) (h : Hp) : Oc → Hp
  | .inl k => setg h fg (inc (h fg) k)
  | .inr q => setg h g q.2
def SheetAt (q s : Nat) : Prop := shp[q]? = some (.inl (1, [.inl (q + 1), .inr (6, s), .inr (6, 4 + s)])) ∧ shp[q + 1]? = some (.inr (0, 40, 6, 8 + 40 * s))
theorem sheetAt {s : Nat} (hs : s < 4) : SheetAt (19 + 2 * s) s := by
  match s, hs with
  | 0, _ => exact ⟨rfl, rfl⟩
  | 1, _ => exact ⟨rfl, rfl⟩
  | 2, _ => exact ⟨rfl, rfl⟩
  | 3, _ => exact ⟨rfl, rfl⟩
  | n + 4, h => exact absurd h (by omega)
/-- of the sheets' row: bits, length, numbers -/
def sB (sh : Rw) (s : Nat) : Int32 := sh s
def sL (sh : Rw) (s : Nat) : Int32 := sh (4 + s)
def sN (sh : Rw) (s k : Nat) : Int32 := sh (8 + 40 * s + k)
def nL2 (sh : Rw) (s : Nat) : Nat := (sL sh s).toNatClampNeg
def InS (sh : Rw) : Prop := ∀ s, s < 4 → (sB sh s = 0 ∨ sB sh s = 8 ∨ sB sh s = 16 ∨ sB sh s = 32) ∧ nL2 sh s ≤ 40 ∧ sL sh s = nI (nL2 sh s)
def filR (sh : Rw) (s : Nat) (b l : Int32) (n : Nat) : Rw := fun k => if k = s then b else if k = 4 + s then l else if 8 + 40 * s ≤ k ∧ k < 8 + 40 * s + n then 0 else sh k
def narB (b v : Int32) : Int32 := if b = 8 then v.toInt8.toInt32 else if b = 16 then v.toInt16.toInt32 else v
def putR (sh : Rw) (s i : Nat) (v : Int32) : Rw := upd sh (8 + 40 * s + i) (narB (sB sh s) v)
theorem fil_0 (sh : Rw) {s : Nat} (hs : s < 4) (b l : Int32) : upd (upd sh s b) (4 + s) l = filR sh s b l 0 := by
  funext k
  unfold upd filR
  by_cases h1 : k = s
  · subst h1; rw [if_neg (by omega), if_pos rfl, if_pos rfl]
  · by_cases h2 : k = 4 + s
    · subst h2; rw [if_pos rfl, if_neg h1, if_pos rfl]
    · rw [if_neg h2, if_neg h1, if_neg h1, if_neg h2, if_neg (by omega)]
theorem fil_s (sh : Rw) {s : Nat} (hs : s < 4) (b l : Int32) (n : Nat) : upd (filR sh s b l n) (8 + 40 * s + n) 0 = filR sh s b l (n + 1) := by
  funext k
  unfold upd filR
  by_cases h0 : k = 8 + 40 * s + n
  · subst h0; rw [if_pos rfl, if_neg (by omega), if_neg (by omega), if_pos (by omega)]
  · rw [if_neg h0]
    by_cases h1 : k = s
    · rw [if_pos h1, if_pos h1]
    · rw [if_neg h1, if_neg h1]
      by_cases h2 : k = 4 + s
      · rw [if_pos h2, if_pos h2]
      · rw [if_neg h2, if_neg h2]
        by_cases h3 : 8 + 40 * s ≤ k ∧ k < 8 + 40 * s + n
        · rw [if_pos h3, if_pos (by omega)]
        · rw [if_neg h3, if_neg (by omega)]
set_option maxRecDepth 100000 in
set_option maxHeartbeats 4000000 in
theorem c_X1_isMissing {X : Sc} {h : Hp} {q s : Nat} (hs : SheetAt q s) : Ct X yX1_isMissing cX1_isMissing 1 (some .boolean) 0 [.ref q] h (some (.int (bI (decide (sB (h 6) s = 0))))) h := by
  refine ⟨rok_b _, ?_⟩
  refine g_aload_n dX1_isMissing_0 rfl ?_
  refine g_getI dX1_isMissing_1 fl_X1_13 hs.1 rfl ?_
  refine g_if_ne 11 dX1_isMissing_4 (by decide) (fun c4 => ?_) (fun c4 => ?_)
  · refine g_iconst dX1_isMissing_11 ic_0 ?_
    exact g_ireturn dX1_isMissing_12 (by simp_all [sB, bI]) rfl
  · refine g_iconst dX1_isMissing_7 ic_1 ?_
    refine g_goto 12 dX1_isMissing_8 (by decide) ?_
    exact g_ireturn dX1_isMissing_12 (by simp_all [sB, bI]) rfl

set_option maxRecDepth 100000 in
set_option maxHeartbeats 4000000 in
theorem l_X1_start {X : Sc} {h : Hp} {q s : Nat} (hs : SheetAt q s) (h4 : s < 4) {b l : Int32} : ∀ k, k ≤ 40 → Go X RX1 cX1_start 4 0 12 [.ref q, .int b, .int l, .int (nI k)] [] (setg h 6 (filR (h 6) s b l k)) none (setg h 6 (filR (h 6) s b l 40)) := by
  refine loop_up (40) ?_ ?_
  · refine g_iload_n dX1_start_12 rfl ?_
    refine g_bipush dX1_start_13 bp_40 ?_
    refine g_icmp_ge 31 dX1_start_15 (by decide) (fun c15 => ?_) (fun c15 => ?_)
    · exact g_return dX1_start_31 rfl rfl
    · exact (lp_yes ((rfl : (40 : Int32) = nI 40)) (by decide) c15).elim
  · intro k hk ih
    refine g_iload_n dX1_start_12 rfl ?_
    refine g_bipush dX1_start_13 bp_40 ?_
    refine g_icmp_ge 31 dX1_start_15 (by decide) (fun c15 => ?_) (fun c15 => ?_)
    · exact (lp_no ((rfl : (40 : Int32) = nI 40)) (by decide) hk c15).elim
    · refine g_aload_n dX1_start_18 rfl ?_
      refine g_getR dX1_start_19 fl_X1_9 hs.1 rfl ?_
      refine g_iload_n dX1_start_22 rfl ?_
      refine g_iconst dX1_start_23 ic_0 ?_
      refine g_iast k dX1_start_24 hs.2 rfl hk ?_
      refine g_iinc dX1_start_25 rfl (ii_n _) (by decide) rfl ?_
      refine g_goto 12 dX1_start_28 (by decide) ?_
      exact g_h (by rw [up_setg, setg_s, setg_2, fil_s _ h4]) ih

set_option maxRecDepth 100000 in
set_option maxHeartbeats 4000000 in
theorem c_X1_start {X : Sc} {h : Hp} {q s : Nat} (hs : SheetAt q s) (h4 : s < 4) {b l : Int32} : Ct X yX1_start cX1_start 4 none 0 [.ref q, .int b, .int l] h none (setg h 6 (filR (h 6) s b l 40)) := by
  refine ⟨trivial, ?_⟩
  refine g_aload_n dX1_start_0 rfl ?_
  refine g_iload_n dX1_start_1 rfl ?_
  refine g_putI dX1_start_2 fl_X1_13 fp_1_1 hs.1 rfl ?_
  refine g_aload_n dX1_start_5 rfl ?_
  refine g_iload_n dX1_start_6 rfl ?_
  refine g_putI dX1_start_7 fl_X1_17 fp_1_2 hs.1 rfl ?_
  refine g_iconst dX1_start_10 ic_0 ?_
  refine g_istore_n dX1_start_11 (by decide) rfl ?_
  exact g_h (by rw [up_setg, up_setg, setg_s, setg_2, fil_0 _ h4]) (l_X1_start hs h4 0 (by decide))

set_option maxRecDepth 100000 in
set_option maxHeartbeats 4000000 in
theorem c_X1_put {X : Sc} {h : Hp} {q s : Nat} (hs : SheetAt q s) {i : Nat} (hi : i < 40) {v : Int32} : Ct X yX1_put cX1_put 3 none 0 [.ref q, .int (nI i), .int v] h none (setg h 6 (putR (h 6) s i v)) := by
  refine ⟨trivial, ?_⟩
  refine g_aload_n dX1_put_0 rfl ?_
  refine g_getI dX1_put_1 fl_X1_13 hs.1 rfl ?_
  refine g_bipush dX1_put_4 bp_8 ?_
  refine g_icmp_ne 20 dX1_put_6 (by decide) (fun c6 => ?_) (fun c6 => ?_)
  · refine g_aload_n dX1_put_20 rfl ?_
    refine g_getI dX1_put_21 fl_X1_13 hs.1 rfl ?_
    refine g_bipush dX1_put_24 bp_16 ?_
    refine g_icmp_ne 40 dX1_put_26 (by decide) (fun c26 => ?_) (fun c26 => ?_)
    · refine g_aload_n dX1_put_40 rfl ?_
      refine g_getR dX1_put_41 fl_X1_9 hs.1 rfl ?_
      refine g_iload_n dX1_put_44 rfl ?_
      refine g_iload_n dX1_put_45 rfl ?_
      refine g_iast i dX1_put_46 hs.2 rfl hi ?_
      exact g_return dX1_put_47 rfl (by rw [up_setg]; simp_all [putR, narB, sB])
    · refine g_aload_n dX1_put_29 rfl ?_
      refine g_getR dX1_put_30 fl_X1_9 hs.1 rfl ?_
      refine g_iload_n dX1_put_33 rfl ?_
      refine g_iload_n dX1_put_34 rfl ?_
      refine g_i2s dX1_put_35 ?_
      refine g_iast i dX1_put_36 hs.2 rfl hi ?_
      refine g_goto 47 dX1_put_37 (by decide) ?_
      exact g_return dX1_put_47 rfl (by rw [up_setg]; simp_all [putR, narB, sB])
  · refine g_aload_n dX1_put_9 rfl ?_
    refine g_getR dX1_put_10 fl_X1_9 hs.1 rfl ?_
    refine g_iload_n dX1_put_13 rfl ?_
    refine g_iload_n dX1_put_14 rfl ?_
    refine g_i2b dX1_put_15 ?_
    refine g_iast i dX1_put_16 hs.2 rfl hi ?_
    refine g_goto 47 dX1_put_17 (by decide) ?_
    exact g_return dX1_put_47 rfl (by rw [up_setg]; simp_all [putR, narB, sB])

def rngB (l a n : Int32) : Bool := !decide (n < 0) && !decide (l < n) && !decide (a < 0) && !decide (l - n < a)
set_option maxRecDepth 100000 in
set_option maxHeartbeats 4000000 in
theorem c_X1_hasRange {X : Sc} {h : Hp} {q s : Nat} (hs : SheetAt q s) {a n : Int32} : Ct X yX1_hasRange cX1_hasRange 3 (some .boolean) 0 [.ref q, .int a, .int n] h (some (.int (bI (rngB (sL (h 6) s) a n)))) h := by
  refine ⟨rok_b _, ?_⟩
  refine g_iload_n dX1_hasRange_0 rfl ?_
  refine g_if_lt 30 dX1_hasRange_1 (by decide) (fun c1 => ?_) (fun c1 => ?_)
  · refine g_iconst dX1_hasRange_30 ic_0 ?_
    exact g_ireturn dX1_hasRange_31 (by first | (simp_all [rngB, sL, bI]; done) | (unfold rngB sL; rw [decide_eq_false c1, decide_eq_false c9, decide_eq_false c13, decide_eq_false c23]; rfl)) rfl
  · refine g_iload_n dX1_hasRange_4 rfl ?_
    refine g_aload_n dX1_hasRange_5 rfl ?_
    refine g_getI dX1_hasRange_6 fl_X1_17 hs.1 rfl ?_
    refine g_icmp_gt 30 dX1_hasRange_9 (by decide) (fun c9 => ?_) (fun c9 => ?_)
    · refine g_iconst dX1_hasRange_30 ic_0 ?_
      exact g_ireturn dX1_hasRange_31 (by first | (simp_all [rngB, sL, bI]; done) | (unfold rngB sL; rw [decide_eq_false c1, decide_eq_false c9, decide_eq_false c13, decide_eq_false c23]; rfl)) rfl
    · refine g_iload_n dX1_hasRange_12 rfl ?_
      refine g_if_lt 30 dX1_hasRange_13 (by decide) (fun c13 => ?_) (fun c13 => ?_)
      · refine g_iconst dX1_hasRange_30 ic_0 ?_
        exact g_ireturn dX1_hasRange_31 (by first | (simp_all [rngB, sL, bI]; done) | (unfold rngB sL; rw [decide_eq_false c1, decide_eq_false c9, decide_eq_false c13, decide_eq_false c23]; rfl)) rfl
      · refine g_iload_n dX1_hasRange_16 rfl ?_
        refine g_aload_n dX1_hasRange_17 rfl ?_
        refine g_getI dX1_hasRange_18 fl_X1_17 hs.1 rfl ?_
        refine g_iload_n dX1_hasRange_21 rfl ?_
        refine g_isub dX1_hasRange_22 ?_
        refine g_icmp_gt 30 dX1_hasRange_23 (by decide) (fun c23 => ?_) (fun c23 => ?_)
        · refine g_iconst dX1_hasRange_30 ic_0 ?_
          exact g_ireturn dX1_hasRange_31 (by first | (simp_all [rngB, sL, bI]; done) | (unfold rngB sL; rw [decide_eq_false c1, decide_eq_false c9, decide_eq_false c13, decide_eq_false c23]; rfl)) rfl
        · refine g_iconst dX1_hasRange_26 ic_1 ?_
          refine g_goto 31 dX1_hasRange_27 (by decide) ?_
          exact g_ireturn dX1_hasRange_31 (by first | (simp_all [rngB, sL, bI]; done) | (unfold rngB sL; rw [decide_eq_false c1, decide_eq_false c9, decide_eq_false c13, decide_eq_false c23]; rfl)) rfl

def trb (sh : Rw) (s : Int32) : Int32 := if inB s 0 3 then (if sB sh (tn s) = 0 then -1000006 else 0) else -1000001
/-- of a sheet: no such one (BEYOND), missing, or as f tells -/
def onS (sh : Rw) (s : Int32) (f : Oc) : Oc := if inB s 0 3 then (if sB sh (tn s) = 0 then .inl 5 else f) else .inl 0
theorem trb_0 {sh : Rw} {s : Int32} (h : trb sh s = 0) : inB s 0 3 = true ∧ ¬ sB sh (tn s) = 0 := by
  unfold trb at h
  by_cases c : inB s 0 3 = true
  · rw [if_pos c] at h
    by_cases d : sB sh (tn s) = 0
    · rw [if_pos d] at h; exact absurd h (by decide)
    · exact ⟨c, d⟩
  · rw [if_neg c] at h; exact absurd h (by decide)
theorem trb_k {sh : Rw} {s : Int32} (h : ¬ trb sh s = 0) : -1000001 - trb sh s = nI (if inB s 0 3 = true then 5 else 0) := by
  unfold trb at h ⊢
  by_cases c : inB s 0 3 = true
  · rw [if_pos c] at h ⊢
    rw [if_pos c]
    by_cases d : sB sh (tn s) = 0
    · rw [if_pos d]; decide
    · rw [if_neg d] at h; exact absurd rfl h
  · rw [if_neg c, if_neg c]; decide
theorem trb_f {sh : Rw} {s : Int32} (h : ¬ trb sh s = 0) (f : Oc) : onS sh s f = .inl (if inB s 0 3 = true then 5 else 0) ∧ trb sh s = oV (onS sh s f) := by
  unfold trb at h ⊢
  unfold onS
  by_cases c : inB s 0 3 = true
  · rw [if_pos c] at h
    rw [if_pos c, if_pos c, if_pos c]
    by_cases d : sB sh (tn s) = 0
    · rw [if_pos d, if_pos d]; exact ⟨rfl, by decide⟩
    · rw [if_neg d] at h; exact absurd rfl h
  · rw [if_neg c, if_neg c, if_neg c]; exact ⟨rfl, by decide⟩
theorem onS_ok {sh : Rw} {s : Int32} (h : inB s 0 3 = true ∧ ¬ sB sh (tn s) = 0) (f : Oc) : onS sh s f = f := by
  unfold onS
  rw [if_pos h.1, if_neg h.2]
set_option maxRecDepth 100000 in
set_option maxHeartbeats 4000000 in
theorem c_X3_sheetTrouble {X : Sc} {h : Hp} {s : Int32} : Ct X yX3_sheetTrouble cX3_sheetTrouble 2 (some .int) 2 [.ref 0, .int s] h (some (.int (trb (h 6) s))) h := by
  refine ⟨rfl, ?_⟩
  refine g_iload_n dX3_sheetTrouble_0 rfl ?_
  refine g_callS1i (c_X3_isSheet) mi_X3_isSheet ms_X3_isSheet ml_X3_235 dX3_sheetTrouble_1 (by decide) (Nat.le_of_ble_eq_true rfl) (Nat.le_of_ble_eq_true rfl) ?_
  refine g_if_ne 10 dX3_sheetTrouble_4 (by decide) (fun c4 => ?_) (fun c4 => ?_)
  · obtain ⟨j, hj, tj, rfl⟩ := inB_of 3 (by decide) (nb0 c4)
    refine g_aload_n dX3_sheetTrouble_10 rfl ?_
    refine g_getR dX3_sheetTrouble_11 fl_X3_31 rfl rfl ?_
    refine g_iload_n dX3_sheetTrouble_14 rfl ?_
    refine g_aald j dX3_sheetTrouble_15 rfl (by omega) ?_
    refine g_callV0i (c_X1_isMissing (sheetAt (by omega))) mi_X1_isMissing mv_X1_isMissing ml_X3_246 dX3_sheetTrouble_16 (sheetAt (by omega)).1 rfl (by decide) (Nat.le_of_ble_eq_true rfl) (Nat.le_of_ble_eq_true rfl) ?_
    refine g_if_eq 27 dX3_sheetTrouble_19 (by decide) (fun c19 => ?_) (fun c19 => ?_)
    · refine g_iconst dX3_sheetTrouble_27 ic_0 ?_
      exact g_ireturn dX3_sheetTrouble_28 (by simp_all [trb, bI_0]) rfl
    · refine g_ldc dX3_sheetTrouble_22 lc_X3_230 ?_
      refine g_goto 28 dX3_sheetTrouble_24 (by decide) ?_
      exact g_ireturn dX3_sheetTrouble_28 (by simp_all [trb, bI_0]) rfl
  · refine g_ldc dX3_sheetTrouble_7 lc_X3_52 ?_
    exact g_ireturn dX3_sheetTrouble_9 (by simp_all [trb, bI_0]) rfl

def f_sheet (sh : Rw) (s b n : Int32) : Oc := if inB s 0 3 && (decide (b = 0) || decide (b = 8) || decide (b = 16) || decide (b = 32)) then (if 0 ≤ n then (if n ≤ 40 then .inr ((if b = 0 then 0 else n), filR sh (tn s) b (if b = 0 then 0 else n) 40) else .inl 0) else .inl 6) else .inl 0
def f_write (sh : Rw) (s i v : Int32) : Oc := onS sh s (if inB i 0 (sL sh (tn s) - 1) then .inr (1, putR sh (tn s) (tn i) v) else .inl 0)
theorem fil_L (sh : Rw) {s : Nat} (hs : s < 4) (b l : Int32) (n : Nat) : filR sh s b l n (4 + s) = l := by
  unfold filR
  rw [if_neg (by omega), if_pos rfl]
set_option maxRecDepth 100000 in
set_option maxHeartbeats 4000000 in
theorem c_X3_sheet {X : Sc} {h : Hp} (hI : In (h 1)) (hS : InS (h 6)) {s b n : Int32} : Ct X yX3_sheet cX3_sheet 4 (some .int) 2 [.ref 0, .int s, .int b, .int n] h (some (.int (oV (f_sheet (h 6) s b n)))) (oG 6 5 h (f_sheet (h 6) s b n)) := by
  refine ⟨rfl, ?_⟩
  refine g_iload_n dX3_sheet_0 rfl ?_
  refine g_callS1i (c_X3_isSheet) mi_X3_isSheet ms_X3_isSheet ml_X3_235 dX3_sheet_1 (by decide) (Nat.le_of_ble_eq_true rfl) (Nat.le_of_ble_eq_true rfl) ?_
  refine g_if_eq 29 dX3_sheet_4 (by decide) (fun c4 => ?_) (fun c4 => ?_)
  · refine g_aload_n dX3_sheet_29 rfl ?_
    refine g_ldc dX3_sheet_30 lc_X3_52 ?_
    refine g_callV1i (c_X3_found 0 (by decide) (by decide)) mi_X3_found mv_X3_found ml_X3_53 dX3_sheet_32 rfl rfl (by decide) (Nat.le_of_ble_eq_true rfl) (Nat.le_of_ble_eq_true rfl) ?_
    exact g_ireturn dX3_sheet_35 (by simp_all [f_sheet, oV, fvl_0, fvl_1, fvl_2, fvl_3, fvl_4, fvl_5, fvl_6, bI_0]) (by simp_all [f_sheet, oG, bI_0, setg_id])
  · refine g_iload_n dX3_sheet_7 rfl ?_
    refine g_if_eq 36 dX3_sheet_8 (by decide) (fun c8 => ?_) (fun c8 => ?_)
    · have hP : (inB s 0 3 && (decide (b = 0) || decide (b = 8) || decide (b = 16) || decide (b = 32))) = true := by simp_all [bI_0]
      refine g_iload_n dX3_sheet_36 rfl ?_
      refine g_if_ge 47 dX3_sheet_37 (by decide) (fun c37 => ?_) (fun c37 => ?_)
      · refine g_iload_n dX3_sheet_47 rfl ?_
        refine g_bipush dX3_sheet_48 bp_40 ?_
        refine g_icmp_le 60 dX3_sheet_50 (by decide) (fun c50 => ?_) (fun c50 => ?_)
        · obtain ⟨j, hj, tj, rfl⟩ := inB_of 3 (by decide) (nb0 c4)
          refine g_aload_n dX3_sheet_60 rfl ?_
          refine g_getR dX3_sheet_61 fl_X3_31 rfl rfl ?_
          refine g_iload_n dX3_sheet_64 rfl ?_
          refine g_aald j dX3_sheet_65 rfl (by omega) ?_
          refine g_iload_n dX3_sheet_66 rfl ?_
          refine g_iload_n dX3_sheet_67 rfl ?_
          refine g_if_ne 75 dX3_sheet_68 (by decide) (fun c68 => ?_) (fun c68 => ?_)
          · refine g_iload_n dX3_sheet_75 rfl ?_
            refine g_callV2v (c_X1_start (sheetAt (by omega)) (by omega)) mi_X1_start mv_X1_start ml_X3_239 dX3_sheet_76 (sheetAt (by omega)).1 rfl (by decide) (Nat.le_of_ble_eq_true rfl) (Nat.le_of_ble_eq_true rfl) ?_
            refine g_aload_n dX3_sheet_79 rfl ?_
            refine g_getR dX3_sheet_80 fl_X3_31 rfl rfl ?_
            refine g_iload_n dX3_sheet_83 rfl ?_
            refine g_aald j dX3_sheet_84 rfl (by omega) ?_
            refine g_getI dX3_sheet_85 fl_X3_242 (sheetAt (by omega)).1 rfl ?_
            refine g_st (st2 := [.int (if b = 0 then 0 else n)]) (by rw [setg_s, fil_L _ (by omega)]; simp_all) ?_
            exact g_ireturn dX3_sheet_88 (by rw [f_sheet, if_pos hP, if_pos c37, if_pos c50]; rfl) (by rw [f_sheet, if_pos hP, if_pos c37, if_pos c50, tj]; simp only [oG]; simp_all)
          · refine g_iconst dX3_sheet_71 ic_0 ?_
            refine g_goto 76 dX3_sheet_72 (by decide) ?_
            refine g_callV2v (c_X1_start (sheetAt (by omega)) (by omega)) mi_X1_start mv_X1_start ml_X3_239 dX3_sheet_76 (sheetAt (by omega)).1 rfl (by decide) (Nat.le_of_ble_eq_true rfl) (Nat.le_of_ble_eq_true rfl) ?_
            refine g_aload_n dX3_sheet_79 rfl ?_
            refine g_getR dX3_sheet_80 fl_X3_31 rfl rfl ?_
            refine g_iload_n dX3_sheet_83 rfl ?_
            refine g_aald j dX3_sheet_84 rfl (by omega) ?_
            refine g_getI dX3_sheet_85 fl_X3_242 (sheetAt (by omega)).1 rfl ?_
            refine g_st (st2 := [.int (if b = 0 then 0 else n)]) (by rw [setg_s, fil_L _ (by omega)]; simp_all) ?_
            exact g_ireturn dX3_sheet_88 (by rw [f_sheet, if_pos hP, if_pos c37, if_pos c50]; rfl) (by rw [f_sheet, if_pos hP, if_pos c37, if_pos c50, tj]; simp only [oG]; simp_all)
        · refine g_aload_n dX3_sheet_53 rfl ?_
          refine g_ldc dX3_sheet_54 lc_X3_52 ?_
          refine g_callV1i (c_X3_found 0 (by decide) (by decide)) mi_X3_found mv_X3_found ml_X3_53 dX3_sheet_56 rfl rfl (by decide) (Nat.le_of_ble_eq_true rfl) (Nat.le_of_ble_eq_true rfl) ?_
          exact g_ireturn dX3_sheet_59 (by rw [f_sheet, if_pos hP, if_pos c37, if_neg c50]; rfl) (by rw [f_sheet, if_pos hP, if_pos c37, if_neg c50]; rfl)
      · refine g_aload_n dX3_sheet_40 rfl ?_
        refine g_ldc dX3_sheet_41 lc_X3_238 ?_
        refine g_callV1i (c_X3_found 6 (by decide) (by decide)) mi_X3_found mv_X3_found ml_X3_53 dX3_sheet_43 rfl rfl (by decide) (Nat.le_of_ble_eq_true rfl) (Nat.le_of_ble_eq_true rfl) ?_
        exact g_ireturn dX3_sheet_46 (by rw [f_sheet, if_pos hP, if_neg c37]; rfl) (by rw [f_sheet, if_pos hP, if_neg c37]; rfl)
    · refine g_iload_n dX3_sheet_11 rfl ?_
      refine g_bipush dX3_sheet_12 bp_8 ?_
      refine g_icmp_eq 36 dX3_sheet_14 (by decide) (fun c14 => ?_) (fun c14 => ?_)
      · have hP : (inB s 0 3 && (decide (b = 0) || decide (b = 8) || decide (b = 16) || decide (b = 32))) = true := by simp_all [bI_0]
        refine g_iload_n dX3_sheet_36 rfl ?_
        refine g_if_ge 47 dX3_sheet_37 (by decide) (fun c37 => ?_) (fun c37 => ?_)
        · refine g_iload_n dX3_sheet_47 rfl ?_
          refine g_bipush dX3_sheet_48 bp_40 ?_
          refine g_icmp_le 60 dX3_sheet_50 (by decide) (fun c50 => ?_) (fun c50 => ?_)
          · obtain ⟨j, hj, tj, rfl⟩ := inB_of 3 (by decide) (nb0 c4)
            refine g_aload_n dX3_sheet_60 rfl ?_
            refine g_getR dX3_sheet_61 fl_X3_31 rfl rfl ?_
            refine g_iload_n dX3_sheet_64 rfl ?_
            refine g_aald j dX3_sheet_65 rfl (by omega) ?_
            refine g_iload_n dX3_sheet_66 rfl ?_
            refine g_iload_n dX3_sheet_67 rfl ?_
            refine g_if_ne 75 dX3_sheet_68 (by decide) (fun c68 => ?_) (fun c68 => ?_)
            · refine g_iload_n dX3_sheet_75 rfl ?_
              refine g_callV2v (c_X1_start (sheetAt (by omega)) (by omega)) mi_X1_start mv_X1_start ml_X3_239 dX3_sheet_76 (sheetAt (by omega)).1 rfl (by decide) (Nat.le_of_ble_eq_true rfl) (Nat.le_of_ble_eq_true rfl) ?_
              refine g_aload_n dX3_sheet_79 rfl ?_
              refine g_getR dX3_sheet_80 fl_X3_31 rfl rfl ?_
              refine g_iload_n dX3_sheet_83 rfl ?_
              refine g_aald j dX3_sheet_84 rfl (by omega) ?_
              refine g_getI dX3_sheet_85 fl_X3_242 (sheetAt (by omega)).1 rfl ?_
              refine g_st (st2 := [.int (if b = 0 then 0 else n)]) (by rw [setg_s, fil_L _ (by omega)]; simp_all) ?_
              exact g_ireturn dX3_sheet_88 (by rw [f_sheet, if_pos hP, if_pos c37, if_pos c50]; rfl) (by rw [f_sheet, if_pos hP, if_pos c37, if_pos c50, tj]; simp only [oG]; simp_all)
            · refine g_iconst dX3_sheet_71 ic_0 ?_
              refine g_goto 76 dX3_sheet_72 (by decide) ?_
              refine g_callV2v (c_X1_start (sheetAt (by omega)) (by omega)) mi_X1_start mv_X1_start ml_X3_239 dX3_sheet_76 (sheetAt (by omega)).1 rfl (by decide) (Nat.le_of_ble_eq_true rfl) (Nat.le_of_ble_eq_true rfl) ?_
              refine g_aload_n dX3_sheet_79 rfl ?_
              refine g_getR dX3_sheet_80 fl_X3_31 rfl rfl ?_
              refine g_iload_n dX3_sheet_83 rfl ?_
              refine g_aald j dX3_sheet_84 rfl (by omega) ?_
              refine g_getI dX3_sheet_85 fl_X3_242 (sheetAt (by omega)).1 rfl ?_
              refine g_st (st2 := [.int (if b = 0 then 0 else n)]) (by rw [setg_s, fil_L _ (by omega)]; simp_all) ?_
              exact g_ireturn dX3_sheet_88 (by rw [f_sheet, if_pos hP, if_pos c37, if_pos c50]; rfl) (by rw [f_sheet, if_pos hP, if_pos c37, if_pos c50, tj]; simp only [oG]; simp_all)
          · refine g_aload_n dX3_sheet_53 rfl ?_
            refine g_ldc dX3_sheet_54 lc_X3_52 ?_
            refine g_callV1i (c_X3_found 0 (by decide) (by decide)) mi_X3_found mv_X3_found ml_X3_53 dX3_sheet_56 rfl rfl (by decide) (Nat.le_of_ble_eq_true rfl) (Nat.le_of_ble_eq_true rfl) ?_
            exact g_ireturn dX3_sheet_59 (by rw [f_sheet, if_pos hP, if_pos c37, if_neg c50]; rfl) (by rw [f_sheet, if_pos hP, if_pos c37, if_neg c50]; rfl)
        · refine g_aload_n dX3_sheet_40 rfl ?_
          refine g_ldc dX3_sheet_41 lc_X3_238 ?_
          refine g_callV1i (c_X3_found 6 (by decide) (by decide)) mi_X3_found mv_X3_found ml_X3_53 dX3_sheet_43 rfl rfl (by decide) (Nat.le_of_ble_eq_true rfl) (Nat.le_of_ble_eq_true rfl) ?_
          exact g_ireturn dX3_sheet_46 (by rw [f_sheet, if_pos hP, if_neg c37]; rfl) (by rw [f_sheet, if_pos hP, if_neg c37]; rfl)
      · refine g_iload_n dX3_sheet_17 rfl ?_
        refine g_bipush dX3_sheet_18 bp_16 ?_
        refine g_icmp_eq 36 dX3_sheet_20 (by decide) (fun c20 => ?_) (fun c20 => ?_)
        · have hP : (inB s 0 3 && (decide (b = 0) || decide (b = 8) || decide (b = 16) || decide (b = 32))) = true := by simp_all [bI_0]
          refine g_iload_n dX3_sheet_36 rfl ?_
          refine g_if_ge 47 dX3_sheet_37 (by decide) (fun c37 => ?_) (fun c37 => ?_)
          · refine g_iload_n dX3_sheet_47 rfl ?_
            refine g_bipush dX3_sheet_48 bp_40 ?_
            refine g_icmp_le 60 dX3_sheet_50 (by decide) (fun c50 => ?_) (fun c50 => ?_)
            · obtain ⟨j, hj, tj, rfl⟩ := inB_of 3 (by decide) (nb0 c4)
              refine g_aload_n dX3_sheet_60 rfl ?_
              refine g_getR dX3_sheet_61 fl_X3_31 rfl rfl ?_
              refine g_iload_n dX3_sheet_64 rfl ?_
              refine g_aald j dX3_sheet_65 rfl (by omega) ?_
              refine g_iload_n dX3_sheet_66 rfl ?_
              refine g_iload_n dX3_sheet_67 rfl ?_
              refine g_if_ne 75 dX3_sheet_68 (by decide) (fun c68 => ?_) (fun c68 => ?_)
              · refine g_iload_n dX3_sheet_75 rfl ?_
                refine g_callV2v (c_X1_start (sheetAt (by omega)) (by omega)) mi_X1_start mv_X1_start ml_X3_239 dX3_sheet_76 (sheetAt (by omega)).1 rfl (by decide) (Nat.le_of_ble_eq_true rfl) (Nat.le_of_ble_eq_true rfl) ?_
                refine g_aload_n dX3_sheet_79 rfl ?_
                refine g_getR dX3_sheet_80 fl_X3_31 rfl rfl ?_
                refine g_iload_n dX3_sheet_83 rfl ?_
                refine g_aald j dX3_sheet_84 rfl (by omega) ?_
                refine g_getI dX3_sheet_85 fl_X3_242 (sheetAt (by omega)).1 rfl ?_
                refine g_st (st2 := [.int (if b = 0 then 0 else n)]) (by rw [setg_s, fil_L _ (by omega)]; simp_all) ?_
                exact g_ireturn dX3_sheet_88 (by rw [f_sheet, if_pos hP, if_pos c37, if_pos c50]; rfl) (by rw [f_sheet, if_pos hP, if_pos c37, if_pos c50, tj]; simp only [oG]; simp_all)
              · refine g_iconst dX3_sheet_71 ic_0 ?_
                refine g_goto 76 dX3_sheet_72 (by decide) ?_
                refine g_callV2v (c_X1_start (sheetAt (by omega)) (by omega)) mi_X1_start mv_X1_start ml_X3_239 dX3_sheet_76 (sheetAt (by omega)).1 rfl (by decide) (Nat.le_of_ble_eq_true rfl) (Nat.le_of_ble_eq_true rfl) ?_
                refine g_aload_n dX3_sheet_79 rfl ?_
                refine g_getR dX3_sheet_80 fl_X3_31 rfl rfl ?_
                refine g_iload_n dX3_sheet_83 rfl ?_
                refine g_aald j dX3_sheet_84 rfl (by omega) ?_
                refine g_getI dX3_sheet_85 fl_X3_242 (sheetAt (by omega)).1 rfl ?_
                refine g_st (st2 := [.int (if b = 0 then 0 else n)]) (by rw [setg_s, fil_L _ (by omega)]; simp_all) ?_
                exact g_ireturn dX3_sheet_88 (by rw [f_sheet, if_pos hP, if_pos c37, if_pos c50]; rfl) (by rw [f_sheet, if_pos hP, if_pos c37, if_pos c50, tj]; simp only [oG]; simp_all)
            · refine g_aload_n dX3_sheet_53 rfl ?_
              refine g_ldc dX3_sheet_54 lc_X3_52 ?_
              refine g_callV1i (c_X3_found 0 (by decide) (by decide)) mi_X3_found mv_X3_found ml_X3_53 dX3_sheet_56 rfl rfl (by decide) (Nat.le_of_ble_eq_true rfl) (Nat.le_of_ble_eq_true rfl) ?_
              exact g_ireturn dX3_sheet_59 (by rw [f_sheet, if_pos hP, if_pos c37, if_neg c50]; rfl) (by rw [f_sheet, if_pos hP, if_pos c37, if_neg c50]; rfl)
          · refine g_aload_n dX3_sheet_40 rfl ?_
            refine g_ldc dX3_sheet_41 lc_X3_238 ?_
            refine g_callV1i (c_X3_found 6 (by decide) (by decide)) mi_X3_found mv_X3_found ml_X3_53 dX3_sheet_43 rfl rfl (by decide) (Nat.le_of_ble_eq_true rfl) (Nat.le_of_ble_eq_true rfl) ?_
            exact g_ireturn dX3_sheet_46 (by rw [f_sheet, if_pos hP, if_neg c37]; rfl) (by rw [f_sheet, if_pos hP, if_neg c37]; rfl)
        · refine g_iload_n dX3_sheet_23 rfl ?_
          refine g_bipush dX3_sheet_24 bp_32 ?_
          refine g_icmp_eq 36 dX3_sheet_26 (by decide) (fun c26 => ?_) (fun c26 => ?_)
          · have hP : (inB s 0 3 && (decide (b = 0) || decide (b = 8) || decide (b = 16) || decide (b = 32))) = true := by simp_all [bI_0]
            refine g_iload_n dX3_sheet_36 rfl ?_
            refine g_if_ge 47 dX3_sheet_37 (by decide) (fun c37 => ?_) (fun c37 => ?_)
            · refine g_iload_n dX3_sheet_47 rfl ?_
              refine g_bipush dX3_sheet_48 bp_40 ?_
              refine g_icmp_le 60 dX3_sheet_50 (by decide) (fun c50 => ?_) (fun c50 => ?_)
              · obtain ⟨j, hj, tj, rfl⟩ := inB_of 3 (by decide) (nb0 c4)
                refine g_aload_n dX3_sheet_60 rfl ?_
                refine g_getR dX3_sheet_61 fl_X3_31 rfl rfl ?_
                refine g_iload_n dX3_sheet_64 rfl ?_
                refine g_aald j dX3_sheet_65 rfl (by omega) ?_
                refine g_iload_n dX3_sheet_66 rfl ?_
                refine g_iload_n dX3_sheet_67 rfl ?_
                refine g_if_ne 75 dX3_sheet_68 (by decide) (fun c68 => ?_) (fun c68 => ?_)
                · refine g_iload_n dX3_sheet_75 rfl ?_
                  refine g_callV2v (c_X1_start (sheetAt (by omega)) (by omega)) mi_X1_start mv_X1_start ml_X3_239 dX3_sheet_76 (sheetAt (by omega)).1 rfl (by decide) (Nat.le_of_ble_eq_true rfl) (Nat.le_of_ble_eq_true rfl) ?_
                  refine g_aload_n dX3_sheet_79 rfl ?_
                  refine g_getR dX3_sheet_80 fl_X3_31 rfl rfl ?_
                  refine g_iload_n dX3_sheet_83 rfl ?_
                  refine g_aald j dX3_sheet_84 rfl (by omega) ?_
                  refine g_getI dX3_sheet_85 fl_X3_242 (sheetAt (by omega)).1 rfl ?_
                  refine g_st (st2 := [.int (if b = 0 then 0 else n)]) (by rw [setg_s, fil_L _ (by omega)]; simp_all) ?_
                  exact g_ireturn dX3_sheet_88 (by rw [f_sheet, if_pos hP, if_pos c37, if_pos c50]; rfl) (by rw [f_sheet, if_pos hP, if_pos c37, if_pos c50, tj]; simp only [oG]; simp_all)
                · refine g_iconst dX3_sheet_71 ic_0 ?_
                  refine g_goto 76 dX3_sheet_72 (by decide) ?_
                  refine g_callV2v (c_X1_start (sheetAt (by omega)) (by omega)) mi_X1_start mv_X1_start ml_X3_239 dX3_sheet_76 (sheetAt (by omega)).1 rfl (by decide) (Nat.le_of_ble_eq_true rfl) (Nat.le_of_ble_eq_true rfl) ?_
                  refine g_aload_n dX3_sheet_79 rfl ?_
                  refine g_getR dX3_sheet_80 fl_X3_31 rfl rfl ?_
                  refine g_iload_n dX3_sheet_83 rfl ?_
                  refine g_aald j dX3_sheet_84 rfl (by omega) ?_
                  refine g_getI dX3_sheet_85 fl_X3_242 (sheetAt (by omega)).1 rfl ?_
                  refine g_st (st2 := [.int (if b = 0 then 0 else n)]) (by rw [setg_s, fil_L _ (by omega)]; simp_all) ?_
                  exact g_ireturn dX3_sheet_88 (by rw [f_sheet, if_pos hP, if_pos c37, if_pos c50]; rfl) (by rw [f_sheet, if_pos hP, if_pos c37, if_pos c50, tj]; simp only [oG]; simp_all)
              · refine g_aload_n dX3_sheet_53 rfl ?_
                refine g_ldc dX3_sheet_54 lc_X3_52 ?_
                refine g_callV1i (c_X3_found 0 (by decide) (by decide)) mi_X3_found mv_X3_found ml_X3_53 dX3_sheet_56 rfl rfl (by decide) (Nat.le_of_ble_eq_true rfl) (Nat.le_of_ble_eq_true rfl) ?_
                exact g_ireturn dX3_sheet_59 (by rw [f_sheet, if_pos hP, if_pos c37, if_neg c50]; rfl) (by rw [f_sheet, if_pos hP, if_pos c37, if_neg c50]; rfl)
            · refine g_aload_n dX3_sheet_40 rfl ?_
              refine g_ldc dX3_sheet_41 lc_X3_238 ?_
              refine g_callV1i (c_X3_found 6 (by decide) (by decide)) mi_X3_found mv_X3_found ml_X3_53 dX3_sheet_43 rfl rfl (by decide) (Nat.le_of_ble_eq_true rfl) (Nat.le_of_ble_eq_true rfl) ?_
              exact g_ireturn dX3_sheet_46 (by rw [f_sheet, if_pos hP, if_neg c37]; rfl) (by rw [f_sheet, if_pos hP, if_neg c37]; rfl)
          · refine g_aload_n dX3_sheet_29 rfl ?_
            refine g_ldc dX3_sheet_30 lc_X3_52 ?_
            refine g_callV1i (c_X3_found 0 (by decide) (by decide)) mi_X3_found mv_X3_found ml_X3_53 dX3_sheet_32 rfl rfl (by decide) (Nat.le_of_ble_eq_true rfl) (Nat.le_of_ble_eq_true rfl) ?_
            exact g_ireturn dX3_sheet_35 (by simp_all [f_sheet, oV, fvl_0, fvl_1, fvl_2, fvl_3, fvl_4, fvl_5, fvl_6, bI_0]) (by simp_all [f_sheet, oG, bI_0, setg_id])

set_option maxRecDepth 100000 in
set_option maxHeartbeats 4000000 in
theorem c_X3_write {X : Sc} {h : Hp} (hI : In (h 1)) (hS : InS (h 6)) {s i v : Int32} : Ct X yX3_write cX3_write 5 (some .int) 3 [.ref 0, .int s, .int i, .int v] h (some (.int (oV (f_write (h 6) s i v)))) (oG 6 5 h (f_write (h 6) s i v)) := by
  refine ⟨rfl, ?_⟩
  refine g_aload_n dX3_write_0 rfl ?_
  refine g_iload_n dX3_write_1 rfl ?_
  refine g_callV1i (c_X3_sheetTrouble) mi_X3_sheetTrouble mv_X3_sheetTrouble ml_X3_193 dX3_write_2 rfl rfl (by decide) (Nat.le_of_ble_eq_true rfl) (Nat.le_of_ble_eq_true rfl) ?_
  refine g_istore dX3_write_5 (by decide) rfl ?_
  refine g_iload dX3_write_7 rfl ?_
  refine g_if_eq 19 dX3_write_9 (by decide) (fun c9 => ?_) (fun c9 => ?_)
  · have tz := trb_0 c9
    obtain ⟨j, hj, tj, rfl⟩ := inB_of 3 (by decide) tz.1
    refine g_iload_n dX3_write_19 rfl ?_
    refine g_iconst dX3_write_20 ic_0 ?_
    refine g_aload_n dX3_write_21 rfl ?_
    refine g_getR dX3_write_22 fl_X3_31 rfl rfl ?_
    refine g_iload_n dX3_write_25 rfl ?_
    refine g_aald j dX3_write_26 rfl (by omega) ?_
    refine g_getI dX3_write_27 fl_X3_242 (sheetAt (by omega)).1 rfl ?_
    refine g_iconst dX3_write_30 ic_1 ?_
    refine g_isub dX3_write_31 ?_
    refine g_callS3i (c_X3_within) mi_X3_within ms_X3_within ml_X3_48 dX3_write_32 (by decide) (Nat.le_of_ble_eq_true rfl) (Nat.le_of_ble_eq_true rfl) ?_
    refine g_if_ne 45 dX3_write_35 (by decide) (fun c35 => ?_) (fun c35 => ?_)
    · have hL := hS j (by omega)
      have hi2 : inB i 0 (nI (nL2 (h 6) j) - 1) = true := by rw [← hL.2.2]; exact nb0 c35
      have hi3 : ∃ x, x < nL2 (h 6) j ∧ tn (nI x) = x ∧ i = nI x := by
        unfold inB at hi2
        simp only [Bool.and_eq_true, Bool.not_eq_true', decide_eq_false_iff_not] at hi2
        obtain ⟨x, hx, rfl⟩ := nI_of hi2.1
        refine ⟨x, ?_, nI_clamp hx, rfl⟩
        have q := mt (sub1_lt (by omega) _).mpr hi2.2
        exact Nat.lt_of_not_le (fun z => q (nI_le z hx))
      obtain ⟨x, lx, tx, rfl⟩ := hi3
      refine g_aload_n dX3_write_45 rfl ?_
      refine g_getR dX3_write_46 fl_X3_31 rfl rfl ?_
      refine g_iload_n dX3_write_49 rfl ?_
      refine g_aald j dX3_write_50 rfl (by omega) ?_
      refine g_iload_n dX3_write_51 rfl ?_
      refine g_iload_n dX3_write_52 rfl ?_
      refine g_callV2v (c_X1_put (sheetAt (by omega)) (by omega)) mi_X1_put mv_X1_put ml_X3_243 dX3_write_53 (sheetAt (by omega)).1 rfl (by decide) (Nat.le_of_ble_eq_true rfl) (Nat.le_of_ble_eq_true rfl) ?_
      refine g_iconst dX3_write_56 ic_1 ?_
      exact g_ireturn dX3_write_57 (by rw [f_write, onS_ok tz, if_pos (by rw [tj]; exact nb0 c35)]; rfl) (by rw [f_write, onS_ok tz, if_pos (by rw [tj]; exact nb0 c35), tj, tx]; rfl)
    · refine g_aload_n dX3_write_38 rfl ?_
      refine g_ldc dX3_write_39 lc_X3_52 ?_
      refine g_callV1i (c_X3_found 0 (by decide) (by decide)) mi_X3_found mv_X3_found ml_X3_53 dX3_write_41 rfl rfl (by decide) (Nat.le_of_ble_eq_true rfl) (Nat.le_of_ble_eq_true rfl) ?_
      exact g_ireturn dX3_write_44 (by rw [f_write, onS_ok tz, if_neg (by rw [tj, sL, b0 c35]; decide)]; rfl) (by rw [f_write, onS_ok tz, if_neg (by rw [tj, sL, b0 c35]; decide)]; rfl)
  · refine g_aload_n dX3_write_12 rfl ?_
    refine g_iload dX3_write_13 rfl ?_
    refine g_callV1i (c_X3_found (if inB s 0 3 = true then 5 else 0) (by split <;> decide) (trb_k c9)) mi_X3_found mv_X3_found ml_X3_53 dX3_write_15 rfl rfl (by decide) (Nat.le_of_ble_eq_true rfl) (Nat.le_of_ble_eq_true rfl) ?_
    exact g_ireturn dX3_write_18 (by rw [f_write, ← (trb_f c9 _).2]) (by rw [f_write, (trb_f c9 _).1]; rfl)

