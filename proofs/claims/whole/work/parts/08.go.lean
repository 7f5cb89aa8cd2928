/-! THE WALK, in my words -/
def nul : Value → Bool
  | .null => true
  | _ => false
/-- the locals hold lv, place by place (null: nothing is said of it) -/
def LVS (ad : Nat → Nat) (ls : Array Slot) (nL : Nat) (lv : List Value) : Prop := ls.size = nL ∧ lv_wf ls ∧ ∀ (i : Nat) (v : Value), lv[i]? = some v → nul v = false → ls[i]? = some (.val (cv ad v))
def tysOf (ca : Nat → ClassId) : List (ClassId × FieldType) := [(ca 0, .int), (ca 1, .byte), (ca 2, .object "ForkInn$Sheet")]
/-- the good words of the tables -/
def gT : List Cond := lw_tbl.filter goodWord
def Cx (X : Sc) (ad : Nat → Nat) (D : va_G) (ca : Nat → ClassId) (A : Nat → Prop) (p : Program) (R : Room) (s : State) (m : MethodId) (args : Array Value) (c : Code) (cells slots : Nat) (own : String) (cc : ByteArray) (nL d : Nat) : Prop :=
  p.tables.exec = Jvm.exec ∧ c.code = cc ∧ c.maxLocals = nL ∧ s.vm.findClass own = some m.cls ∧ (∀ w ∈ gT, w.before args s = true) ∧ va_K D vwCl (tysOf ca) s ∧ Ro X ad A s s.heap ∧ apD A ad ∧ (∀ q : Nat, s.heap.size ≤ q → A q) ∧ (d ≤ R.frames ∧ 60 * d ≤ R.locals) ∧ cells ≤ R.cells ∧ slots ≤ R.slots
def Wd (D : va_G) (ad : Nat → Nat) (ca : Nat → ClassId) (h : Hp) (A : Nat → Prop) (H0 H : Heap) (locs : List Loc) : Prop := WP D ad ca h H ∧ va_S A H0 H locs
def retI : Option Value → Instr
  | none => .return_
  | some (.long _) => .lreturn
  | some (.ref _) => .areturn
  | _ => .ireturn
/-- from here the method returns r, with the state h' -/
def Go (X : Sc) (own : String) (cc : ByteArray) (nL d pc : Nat) (lv st : List Value) (h : Hp) (r : Option Value) (h' : Hp) : Prop :=
  ∀ (ad : Nat → Nat) (D : va_G) (ca : Nat → ClassId) (A : Nat → Prop) (p : Program) (l : Launch) (e : Env) (R : Room) (s : State) (m : MethodId) (args : Array Value) (below : List Frame) (meth : Method) (c : Code) (cells slots : Nat) (Q : State → Prop),
    Cx X ad D ca A p R s m args c cells slots own cc nL d →
    (∀ (pc' : Nat) (ls : Array Slot) (H : Heap) (locs : List Loc), decode cc pc' = .ok (retI r, 1) → Wd D ad ca h' A s.heap H locs → W p l e R s m args below meth c H locs cells slots Q (F0 m pc' ls ((r.map (cv ad)).toList))) →
    ∀ (ls : Array Slot) (H : Heap) (locs : List Loc), Wd D ad ca h A s.heap H locs → LVS ad ls nL lv → W p l e R s m args below meth c H locs cells slots Q (F0 m pc ls (st.map (cv ad)))
/-- what a return type asks of an answer -/
def rok (ret : Option FieldType) (r : Option Value) : Prop := match ret, r with
  | none, none => True
  | some ty, some (.int v) => narrow ty (.int v) = .int v
  | some .long, some (.long _) => True
  | some (.object _), some (.ref _) => True
  | _, _ => False
/-- the locals at a method's begin -/
def lv0 : List Value → List Value
  | [] => []
  | .long x :: r => .long x :: .null :: lv0 r
  | .double x :: r => .double x :: .null :: lv0 r
  | v :: r => v :: lv0 r
def lvE (nL : Nat) (as : List Value) : List Value := lv0 as ++ List.replicate (nL - (lv0 as).length) .null
/-- a method's contract: with these arguments in this state it returns r, with the state h' -/
def Ct (X : Sc) (y : MethodName) (cc : ByteArray) (nL : Nat) (ret : Option FieldType) (d : Nat) (as : List Value) (h : Hp) (r : Option Value) (h' : Hp) : Prop :=
  rok ret r ∧ Go X y.cls cc nL d 0 (lvE nL as) [] h r h'
theorem cv_cat (ad : Nat → Nat) (v : Value) : (cv ad v).category = v.category := by cases v <;> rfl
def lvl (ad : Nat → Nat) (lv : List Value) : List (Nat × Value) := (List.range lv.length).filterMap fun j => match lv[j]? with
  | some v => if nul v then none else some (j, cv ad v)
  | none => none
theorem lvl_in {ad : Nat → Nat} {lv : List Value} {i : Nat} {v : Value} (h : lv[i]? = some v) (hn : nul v = false) : (i, cv ad v) ∈ lvl ad lv := by
  refine List.mem_filterMap.mpr ⟨i, List.mem_range.mpr (List.getElem?_eq_some_iff.mp h).1, ?_⟩
  simp [h, hn]
theorem lvl_has {ad : Nat → Nat} {ls : Array Slot} {nL : Nat} {lv : List Value} (h : LVS ad ls nL lv) : lv_has ls nL (lvl ad lv) := by
  refine ⟨h.1, h.2.1, fun q hq => ?_⟩
  obtain ⟨j, -, hj⟩ := List.mem_filterMap.mp hq
  cases hv : lv[j]? with
  | none => simp [hv] at hj
  | some v =>
    cases hn : nul v with
    | true => simp [hv, hn] at hj
    | false =>
      simp [hv, hn] at hj
      subst hj
      exact h.2.2 j v hv hn
def lvp (lv : List Value) : Nat → Bool
  | 0 => true
  | j + 1 => (lv.getD j .null).category == 1
theorem LVS.set1 {ad : Nat → Nat} {ls : Array Slot} {nL i : Nat} {lv : List Value} {v : Value} (h : lv_has ls nL ((i, cv ad v) :: (lvl ad lv).filter (fun q => !(q.1 == i) && !(q.1 + 1 == i && q.2.category == 2)))) (hp : lvp lv i = true) : LVS ad ls nL (lv.set i v) := by
  refine ⟨h.1, h.2.1, fun j u hj hn => ?_⟩
  by_cases e : i = j
  · subst e
    have hl : i < lv.length := by
      have := (List.getElem?_eq_some_iff.mp hj).1
      rwa [List.length_set] at this
    rw [List.getElem?_set_self hl] at hj
    cases hj
    exact h.2.2 _ List.mem_cons_self
  · rw [List.getElem?_set_ne e] at hj
    refine h.2.2 (j, cv ad u) (List.mem_cons_of_mem _ (List.mem_filter.mpr ⟨lvl_in hj hn, ?_⟩))
    have e1 : (j == i) = false := by simp; exact fun q => e q.symm
    have e2 : ¬ (j + 1 = i ∧ u.category = 2) := by
      rintro ⟨rfl, q⟩
      simp [lvp, List.getD_eq_getElem?_getD, hj] at hp
      omega
    have e3 : (j + 1 == i && (cv ad u).category == 2) = false := by
      rw [cv_cat, Bool.and_eq_false_iff]
      by_cases e4 : j + 1 = i
      · exact Or.inr (beq_eq_false_iff_ne.mpr (fun q => e2 ⟨e4, q⟩))
      · exact Or.inl (beq_eq_false_iff_ne.mpr e4)
    show (!(j == i) && !(j + 1 == i && (cv ad u).category == 2)) = true
    rw [e1, e3]; rfl
theorem LVS.set2 {ad : Nat → Nat} {ls : Array Slot} {nL i : Nat} {lv : List Value} {v : Value} (h : lv_has ls nL ((i, cv ad v) :: (lvl ad lv).filter (fun q => !(q.1 == i) && (!(q.1 == i + 1) && !(q.1 + 1 == i && q.2.category == 2))))) (hp : lvp lv i = true) : LVS ad ls nL ((lv.set i v).set (i + 1) .null) := by
  refine ⟨h.1, h.2.1, fun j u hj hn => ?_⟩
  by_cases e0 : i + 1 = j
  · subst e0
    have hl : i + 1 < (lv.set i v).length := by
      have := (List.getElem?_eq_some_iff.mp hj).1
      rwa [List.length_set] at this
    rw [List.getElem?_set_self hl] at hj
    cases hj
    cases hn
  · rw [List.getElem?_set_ne e0] at hj
    by_cases e : i = j
    · subst e
      have hl : i < lv.length := by
        have := (List.getElem?_eq_some_iff.mp hj).1
        rwa [List.length_set] at this
      rw [List.getElem?_set_self hl] at hj
      cases hj
      exact h.2.2 _ List.mem_cons_self
    · rw [List.getElem?_set_ne e] at hj
      refine h.2.2 (j, cv ad u) (List.mem_cons_of_mem _ (List.mem_filter.mpr ⟨lvl_in hj hn, ?_⟩))
      have e1 : (j == i) = false := by simp; exact fun q => e q.symm
      have e1' : (j == i + 1) = false := by simp; exact fun q => e0 q.symm
      have e2 : ¬ (j + 1 = i ∧ u.category = 2) := by
        rintro ⟨rfl, q⟩
        simp [lvp, List.getD_eq_getElem?_getD, hj] at hp
        omega
      have e3 : (j + 1 == i && (cv ad u).category == 2) = false := by
        rw [cv_cat, Bool.and_eq_false_iff]
        by_cases e4 : j + 1 = i
        · exact Or.inr (beq_eq_false_iff_ne.mpr (fun q => e2 ⟨e4, q⟩))
        · exact Or.inl (beq_eq_false_iff_ne.mpr e4)
      show (!(j == i) && (!(j == i + 1) && !(j + 1 == i && (cv ad u).category == 2))) = true
      rw [e1, e1', e3]; rfl
theorem gT_in {w : Cond} (h : w ∈ lw_tbl) (hg : goodWord w = true) : w ∈ gT := List.mem_filter.mpr ⟨h, hg⟩
theorem gT_good : ∀ w ∈ gT, (w.onTables && w.keeps) = true ∨ ∃ ty, w = .arrayClass ty := fun w hw => good_of_word (List.mem_filter.mp hw).2
section GO
variable {X : Sc} {own : String} {cc : ByteArray} {nL d pc : Nat} {lv st : List Value} {h h' : Hp} {r : Option Value}
theorem g_iadd {x y : Int32} (hd : decode cc pc = .ok (.iadd, 1)) (k : Go X own cc nL d (pc + 1) lv (.int (x + y) :: st) h r h') : Go X own cc nL d pc lv (.int y :: .int x :: st) h r h' :=
  fun ad D ca A p l e R s m args below meth c cells slots Q C F ls H locs hw hl => lv_iadd C.1 C.2.1 hd (k ad D ca A p l e R s m args below meth c cells slots Q C F ls H locs hw hl)
theorem g_isub {x y : Int32} (hd : decode cc pc = .ok (.isub, 1)) (k : Go X own cc nL d (pc + 1) lv (.int (x - y) :: st) h r h') : Go X own cc nL d pc lv (.int y :: .int x :: st) h r h' :=
  fun ad D ca A p l e R s m args below meth c cells slots Q C F ls H locs hw hl => lv_isub C.1 C.2.1 hd (k ad D ca A p l e R s m args below meth c cells slots Q C F ls H locs hw hl)
theorem g_imul {x y : Int32} (hd : decode cc pc = .ok (.imul, 1)) (k : Go X own cc nL d (pc + 1) lv (.int (x * y) :: st) h r h') : Go X own cc nL d pc lv (.int y :: .int x :: st) h r h' :=
  fun ad D ca A p l e R s m args below meth c cells slots Q C F ls H locs hw hl => lv_imul C.1 C.2.1 hd (k ad D ca A p l e R s m args below meth c cells slots Q C F ls H locs hw hl)
theorem g_iand {x y : Int32} (hd : decode cc pc = .ok (.iand, 1)) (k : Go X own cc nL d (pc + 1) lv (.int (x &&& y) :: st) h r h') : Go X own cc nL d pc lv (.int y :: .int x :: st) h r h' :=
  fun ad D ca A p l e R s m args below meth c cells slots Q C F ls H locs hw hl => lv_iand C.1 C.2.1 hd (k ad D ca A p l e R s m args below meth c cells slots Q C F ls H locs hw hl)
theorem g_ior {x y : Int32} (hd : decode cc pc = .ok (.ior, 1)) (k : Go X own cc nL d (pc + 1) lv (.int (x ||| y) :: st) h r h') : Go X own cc nL d pc lv (.int y :: .int x :: st) h r h' :=
  fun ad D ca A p l e R s m args below meth c cells slots Q C F ls H locs hw hl => lv_ior C.1 C.2.1 hd (k ad D ca A p l e R s m args below meth c cells slots Q C F ls H locs hw hl)
theorem g_ishl {x y : Int32} (hd : decode cc pc = .ok (.ishl, 1)) (k : Go X own cc nL d (pc + 1) lv (.int (x <<< (y &&& 31)) :: st) h r h') : Go X own cc nL d pc lv (.int y :: .int x :: st) h r h' :=
  fun ad D ca A p l e R s m args below meth c cells slots Q C F ls H locs hw hl => lv_ishl C.1 C.2.1 hd (k ad D ca A p l e R s m args below meth c cells slots Q C F ls H locs hw hl)
theorem g_ishr {x y : Int32} (hd : decode cc pc = .ok (.ishr, 1)) (k : Go X own cc nL d (pc + 1) lv (.int (x >>> (y &&& 31)) :: st) h r h') : Go X own cc nL d pc lv (.int y :: .int x :: st) h r h' :=
  fun ad D ca A p l e R s m args below meth c cells slots Q C F ls H locs hw hl => lv_ishr C.1 C.2.1 hd (k ad D ca A p l e R s m args below meth c cells slots Q C F ls H locs hw hl)
theorem g_iushr {x y : Int32} (hd : decode cc pc = .ok (.iushr, 1)) (k : Go X own cc nL d (pc + 1) lv (.int ((x.toUInt32 >>> (y.toUInt32 &&& Int32.toUInt32 31)).toInt32) :: st) h r h') : Go X own cc nL d pc lv (.int y :: .int x :: st) h r h' :=
  fun ad D ca A p l e R s m args below meth c cells slots Q C F ls H locs hw hl => lv_iushr C.1 C.2.1 hd rfl (k ad D ca A p l e R s m args below meth c cells slots Q C F ls H locs hw hl)
theorem g_idiv {x y : Int32} (hd : decode cc pc = .ok (.idiv, 1)) (hn : ¬ y = 0) (k : Go X own cc nL d (pc + 1) lv (.int (x / y) :: st) h r h') : Go X own cc nL d pc lv (.int y :: .int x :: st) h r h' :=
  fun ad D ca A p l e R s m args below meth c cells slots Q C F ls H locs hw hl => lv_idiv C.1 C.2.1 hd hn (k ad D ca A p l e R s m args below meth c cells slots Q C F ls H locs hw hl)
theorem g_irem {x y : Int32} (hd : decode cc pc = .ok (.irem, 1)) (hn : ¬ y = 0) (k : Go X own cc nL d (pc + 1) lv (.int (x - x / y * y) :: st) h r h') : Go X own cc nL d pc lv (.int y :: .int x :: st) h r h' :=
  fun ad D ca A p l e R s m args below meth c cells slots Q C F ls H locs hw hl => lv_irem C.1 C.2.1 hd hn (k ad D ca A p l e R s m args below meth c cells slots Q C F ls H locs hw hl)
theorem g_ineg {x : Int32} (hd : decode cc pc = .ok (.ineg, 1)) (k : Go X own cc nL d (pc + 1) lv (.int (-x) :: st) h r h') : Go X own cc nL d pc lv (.int x :: st) h r h' :=
  fun ad D ca A p l e R s m args below meth c cells slots Q C F ls H locs hw hl => lv_ineg C.1 C.2.1 hd (k ad D ca A p l e R s m args below meth c cells slots Q C F ls H locs hw hl)
theorem g_lmul {x y : Int64} (hd : decode cc pc = .ok (.lmul, 1)) (k : Go X own cc nL d (pc + 1) lv (.long (x * y) :: st) h r h') : Go X own cc nL d pc lv (.long y :: .long x :: st) h r h' :=
  fun ad D ca A p l e R s m args below meth c cells slots Q C F ls H locs hw hl => lv_lmul C.1 C.2.1 hd (k ad D ca A p l e R s m args below meth c cells slots Q C F ls H locs hw hl)
theorem g_i2l {x : Int32} (hd : decode cc pc = .ok (.i2l, 1)) (k : Go X own cc nL d (pc + 1) lv (.long x.toInt64 :: st) h r h') : Go X own cc nL d pc lv (.int x :: st) h r h' :=
  fun ad D ca A p l e R s m args below meth c cells slots Q C F ls H locs hw hl => lv_i2l C.1 C.2.1 hd rfl (k ad D ca A p l e R s m args below meth c cells slots Q C F ls H locs hw hl)
theorem g_i2b {x : Int32} (hd : decode cc pc = .ok (.i2b, 1)) (k : Go X own cc nL d (pc + 1) lv (.int x.toInt8.toInt32 :: st) h r h') : Go X own cc nL d pc lv (.int x :: st) h r h' :=
  fun ad D ca A p l e R s m args below meth c cells slots Q C F ls H locs hw hl => lv_i2b C.1 C.2.1 hd rfl (k ad D ca A p l e R s m args below meth c cells slots Q C F ls H locs hw hl)
theorem g_i2s {x : Int32} (hd : decode cc pc = .ok (.i2s, 1)) (k : Go X own cc nL d (pc + 1) lv (.int x.toInt16.toInt32 :: st) h r h') : Go X own cc nL d pc lv (.int x :: st) h r h' :=
  fun ad D ca A p l e R s m args below meth c cells slots Q C F ls H locs hw hl => lv_i2s C.1 C.2.1 hd rfl (k ad D ca A p l e R s m args below meth c cells slots Q C F ls H locs hw hl)
theorem g_i2c {x : Int32} (hd : decode cc pc = .ok (.i2c, 1)) (k : Go X own cc nL d (pc + 1) lv (.int (x.toUInt32 % 65536).toInt32 :: st) h r h') : Go X own cc nL d pc lv (.int x :: st) h r h' :=
  fun ad D ca A p l e R s m args below meth c cells slots Q C F ls H locs hw hl => lv_i2c C.1 C.2.1 hd rfl (k ad D ca A p l e R s m args below meth c cells slots Q C F ls H locs hw hl)
theorem g_iconst {n : Int} {v : Int32} (hd : decode cc pc = .ok (.iconst n, 1)) (hv : Int32.ofInt n = v) (k : Go X own cc nL d (pc + 1) lv (.int v :: st) h r h') : Go X own cc nL d pc lv st h r h' :=
  fun ad D ca A p l e R s m args below meth c cells slots Q C F ls H locs hw hl => lv_iconst C.1 C.2.1 hd hv (k ad D ca A p l e R s m args below meth c cells slots Q C F ls H locs hw hl)
theorem g_bipush {n : Int} {v : Int32} (hd : decode cc pc = .ok (.bipush n, 2)) (hv : (Int8.ofInt n).toInt32 = v) (k : Go X own cc nL d (pc + 2) lv (.int v :: st) h r h') : Go X own cc nL d pc lv st h r h' :=
  fun ad D ca A p l e R s m args below meth c cells slots Q C F ls H locs hw hl => lv_bipush C.1 C.2.1 hd hv (k ad D ca A p l e R s m args below meth c cells slots Q C F ls H locs hw hl)
theorem g_sipush {n : Int} {v : Int32} (hd : decode cc pc = .ok (.sipush n, 3)) (hv : (Int16.ofInt n).toInt32 = v) (k : Go X own cc nL d (pc + 3) lv (.int v :: st) h r h') : Go X own cc nL d pc lv st h r h' :=
  fun ad D ca A p l e R s m args below meth c cells slots Q C F ls H locs hw hl => lv_sipush C.1 C.2.1 hd hv (k ad D ca A p l e R s m args below meth c cells slots Q C F ls H locs hw hl)
theorem g_lconst {n : Fin 2} {v : Int64} (hd : decode cc pc = .ok (.lconst n, 1)) (hv : Int64.ofNat (n : Nat) = v) (k : Go X own cc nL d (pc + 1) lv (.long v :: st) h r h') : Go X own cc nL d pc lv st h r h' :=
  fun ad D ca A p l e R s m args below meth c cells slots Q C F ls H locs hw hl => lv_lconst C.1 C.2.1 hd hv (k ad D ca A p l e R s m args below meth c cells slots Q C F ls H locs hw hl)
theorem g_ldc {i : Nat} {v : Int32} (hd : decode cc pc = .ok (.ldc i, 2)) (hc : Cond.constant own i v ∈ gT) (k : Go X own cc nL d (pc + 2) lv (.int v :: st) h r h') : Go X own cc nL d pc lv st h r h' :=
  fun ad D ca A p l e R s m args below meth c cells slots Q C F ls H locs hw hl => lv_ldc C.1 C.2.1 C.2.2.2.1 (C.2.2.2.2.1 _ hc) hd (k ad D ca A p l e R s m args below meth c cells slots Q C F ls H locs hw hl)
theorem g_ldcw {i : Nat} {v : Int32} (hd : decode cc pc = .ok (.ldc_w i, 3)) (hc : Cond.constant own i v ∈ gT) (k : Go X own cc nL d (pc + 3) lv (.int v :: st) h r h') : Go X own cc nL d pc lv st h r h' :=
  fun ad D ca A p l e R s m args below meth c cells slots Q C F ls H locs hw hl => lv_ldcw C.1 C.2.1 C.2.2.2.1 (C.2.2.2.2.1 _ hc) hd (k ad D ca A p l e R s m args below meth c cells slots Q C F ls H locs hw hl)
theorem g_iload_n {i : Fin 4} {x : Int32} (hd : decode cc pc = .ok (.iload_n i, 1)) (hi : lv[(i : Nat)]? = some (.int x)) (k : Go X own cc nL d (pc + 1) lv (.int x :: st) h r h') : Go X own cc nL d pc lv st h r h' :=
  fun ad D ca A p l e R s m args below meth c cells slots Q C F ls H locs hw hl => lv_iload_n C.1 C.2.1 hd rfl (hl.2.2 _ _ hi rfl) (k ad D ca A p l e R s m args below meth c cells slots Q C F ls H locs hw hl)
theorem g_iload {i : Nat} {x : Int32} (hd : decode cc pc = .ok (.iload i, 2)) (hi : lv[i]? = some (.int x)) (k : Go X own cc nL d (pc + 2) lv (.int x :: st) h r h') : Go X own cc nL d pc lv st h r h' :=
  fun ad D ca A p l e R s m args below meth c cells slots Q C F ls H locs hw hl => lv_iload C.1 C.2.1 hd (hl.2.2 _ _ hi rfl) (k ad D ca A p l e R s m args below meth c cells slots Q C F ls H locs hw hl)
theorem g_aload_n {i : Fin 4} {x : Nat} (hd : decode cc pc = .ok (.aload_n i, 1)) (hi : lv[(i : Nat)]? = some (.ref x)) (k : Go X own cc nL d (pc + 1) lv (.ref x :: st) h r h') : Go X own cc nL d pc lv st h r h' :=
  fun ad D ca A p l e R s m args below meth c cells slots Q C F ls H locs hw hl => lv_aload_n C.1 C.2.1 hd rfl (hl.2.2 _ _ hi rfl) (k ad D ca A p l e R s m args below meth c cells slots Q C F ls H locs hw hl)
theorem g_aload {i : Nat} {x : Nat} (hd : decode cc pc = .ok (.aload i, 2)) (hi : lv[i]? = some (.ref x)) (k : Go X own cc nL d (pc + 2) lv (.ref x :: st) h r h') : Go X own cc nL d pc lv st h r h' :=
  fun ad D ca A p l e R s m args below meth c cells slots Q C F ls H locs hw hl => lv_aload C.1 C.2.1 hd (hl.2.2 _ _ hi rfl) (k ad D ca A p l e R s m args below meth c cells slots Q C F ls H locs hw hl)
theorem g_lload_n {i : Fin 4} {x : Int64} (hd : decode cc pc = .ok (.lload_n i, 1)) (hi : lv[(i : Nat)]? = some (.long x)) (k : Go X own cc nL d (pc + 1) lv (.long x :: st) h r h') : Go X own cc nL d pc lv st h r h' :=
  fun ad D ca A p l e R s m args below meth c cells slots Q C F ls H locs hw hl => lv_lload_n C.1 C.2.1 hd rfl (hl.2.2 _ _ hi rfl) (k ad D ca A p l e R s m args below meth c cells slots Q C F ls H locs hw hl)
theorem g_lload {i : Nat} {x : Int64} (hd : decode cc pc = .ok (.lload i, 2)) (hi : lv[i]? = some (.long x)) (k : Go X own cc nL d (pc + 2) lv (.long x :: st) h r h') : Go X own cc nL d pc lv st h r h' :=
  fun ad D ca A p l e R s m args below meth c cells slots Q C F ls H locs hw hl => lv_lload C.1 C.2.1 hd (hl.2.2 _ _ hi rfl) (k ad D ca A p l e R s m args below meth c cells slots Q C F ls H locs hw hl)
theorem g_istore_n {i : Fin 4} {x : Int32} (hd : decode cc pc = .ok (.istore_n i, 1)) (hi : (i : Nat) < nL) (hp : lvp lv (i : Nat) = true) (k : Go X own cc nL d (pc + 1) (lv.set (i : Nat) (.int x)) st h r h') : Go X own cc nL d pc lv (.int x :: st) h r h' :=
  fun ad D ca A p l e R s m args below meth c cells slots Q C F ls H locs hw hl => lv_istore_n C.1 C.2.1 hd rfl (lvl_has hl) hi rfl (fun ls2 hl2 => k ad D ca A p l e R s m args below meth c cells slots Q C F ls2 H locs hw (LVS.set1 (v := .int x) hl2 hp))
theorem g_istore {i : Nat} {x : Int32} (hd : decode cc pc = .ok (.istore i, 2)) (hi : i < nL) (hp : lvp lv i = true) (k : Go X own cc nL d (pc + 2) (lv.set i (.int x)) st h r h') : Go X own cc nL d pc lv (.int x :: st) h r h' :=
  fun ad D ca A p l e R s m args below meth c cells slots Q C F ls H locs hw hl => lv_istore C.1 C.2.1 hd (lvl_has hl) hi rfl (fun ls2 hl2 => k ad D ca A p l e R s m args below meth c cells slots Q C F ls2 H locs hw (LVS.set1 (v := .int x) hl2 hp))
theorem g_astore_n {i : Fin 4} {x : Nat} (hd : decode cc pc = .ok (.astore_n i, 1)) (hi : (i : Nat) < nL) (hp : lvp lv (i : Nat) = true) (k : Go X own cc nL d (pc + 1) (lv.set (i : Nat) (.ref x)) st h r h') : Go X own cc nL d pc lv (.ref x :: st) h r h' :=
  fun ad D ca A p l e R s m args below meth c cells slots Q C F ls H locs hw hl => lv_astore_n C.1 C.2.1 hd rfl (lvl_has hl) hi rfl (fun ls2 hl2 => k ad D ca A p l e R s m args below meth c cells slots Q C F ls2 H locs hw (LVS.set1 (v := .ref x) hl2 hp))
theorem g_astore {i : Nat} {x : Nat} (hd : decode cc pc = .ok (.astore i, 2)) (hi : i < nL) (hp : lvp lv i = true) (k : Go X own cc nL d (pc + 2) (lv.set i (.ref x)) st h r h') : Go X own cc nL d pc lv (.ref x :: st) h r h' :=
  fun ad D ca A p l e R s m args below meth c cells slots Q C F ls H locs hw hl => lv_astore C.1 C.2.1 hd (lvl_has hl) hi rfl (fun ls2 hl2 => k ad D ca A p l e R s m args below meth c cells slots Q C F ls2 H locs hw (LVS.set1 (v := .ref x) hl2 hp))
theorem g_lstore_n {i : Fin 4} {x : Int64} (hd : decode cc pc = .ok (.lstore_n i, 1)) (hi : (i : Nat) + 1 < nL) (hp : lvp lv (i : Nat) = true) (k : Go X own cc nL d (pc + 1) ((lv.set (i : Nat) (.long x)).set ((i : Nat) + 1) .null) st h r h') : Go X own cc nL d pc lv (.long x :: st) h r h' :=
  fun ad D ca A p l e R s m args below meth c cells slots Q C F ls H locs hw hl => lv_lstore_n C.1 C.2.1 hd rfl (lvl_has hl) hi rfl (fun ls2 hl2 => k ad D ca A p l e R s m args below meth c cells slots Q C F ls2 H locs hw (LVS.set2 (v := .long x) hl2 hp))
theorem g_lstore {i : Nat} {x : Int64} (hd : decode cc pc = .ok (.lstore i, 2)) (hi : i + 1 < nL) (hp : lvp lv i = true) (k : Go X own cc nL d (pc + 2) ((lv.set i (.long x)).set (i + 1) .null) st h r h') : Go X own cc nL d pc lv (.long x :: st) h r h' :=
  fun ad D ca A p l e R s m args below meth c cells slots Q C F ls H locs hw hl => lv_lstore C.1 C.2.1 hd (lvl_has hl) hi rfl (fun ls2 hl2 => k ad D ca A p l e R s m args below meth c cells slots Q C F ls2 H locs hw (LVS.set2 (v := .long x) hl2 hp))
theorem g_iinc {i : Nat} {n : Int} {x v : Int32} (hd : decode cc pc = .ok (.iinc i n, 3)) (hx : lv[i]? = some (.int x)) (hv : x + Int32.ofInt n = v) (hi : i < nL) (hp : lvp lv i = true) (k : Go X own cc nL d (pc + 3) (lv.set i (.int v)) st h r h') : Go X own cc nL d pc lv st h r h' := by
  intro ad D ca A p l e R s m args below meth c cells slots Q C F ls H locs hw hl
  obtain ⟨q, hq⟩ := List.mem_iff_getElem?.mp (lvl_in (ad := ad) hx rfl)
  exact lv_iinc C.1 C.2.1 hd (lvl_has hl) hq hv hi rfl (fun ls2 hl2 => k ad D ca A p l e R s m args below meth c cells slots Q C F ls2 H locs hw (LVS.set1 (v := .int v) hl2 hp))
theorem g_dup {v : Value} (hd : decode cc pc = .ok (.dup, 1)) (hv : v.category = 1) (k : Go X own cc nL d (pc + 1) lv (v :: v :: st) h r h') : Go X own cc nL d pc lv (v :: st) h r h' :=
  fun ad D ca A p l e R s m args below meth c cells slots Q C F ls H locs hw hl => lv_dup C.1 C.2.1 hd (by rw [cv_cat]; exact hv) (k ad D ca A p l e R s m args below meth c cells slots Q C F ls H locs hw hl)
theorem g_pop {v : Value} (hd : decode cc pc = .ok (.pop, 1)) (hv : v.category = 1) (k : Go X own cc nL d (pc + 1) lv st h r h') : Go X own cc nL d pc lv (v :: st) h r h' :=
  fun ad D ca A p l e R s m args below meth c cells slots Q C F ls H locs hw hl => lv_pop C.1 C.2.1 hd (by rw [cv_cat]; exact hv) (k ad D ca A p l e R s m args below meth c cells slots Q C F ls H locs hw hl)
theorem g_dup2 {v u : Value} (hd : decode cc pc = .ok (.dup2, 1)) (hv : v.category = 1) (hu : u.category = 1) (k : Go X own cc nL d (pc + 1) lv (v :: u :: v :: u :: st) h r h') : Go X own cc nL d pc lv (v :: u :: st) h r h' :=
  fun ad D ca A p l e R s m args below meth c cells slots Q C F ls H locs hw hl => lv_dup2_11 C.1 C.2.1 hd (by rw [cv_cat]; exact hv) (by rw [cv_cat]; exact hu) (k ad D ca A p l e R s m args below meth c cells slots Q C F ls H locs hw hl)
theorem g_if_eq {x : Int32} {off : Int} (tgt : Nat) (hd : decode cc pc = .ok (.ifCond .eq off, 3)) (ht : (pc : Int) + off = (tgt : Int)) (kt : x = 0 → Go X own cc nL d tgt lv st h r h') (kf : ¬ x = 0 → Go X own cc nL d (pc + 3) lv st h r h') : Go X own cc nL d pc lv (.int x :: st) h r h' :=
  fun ad D ca A p l e R s m args below meth c cells slots Q C F ls H locs hw hl => lv_if_eq C.1 C.2.1 hd ht (fun q => kt q ad D ca A p l e R s m args below meth c cells slots Q C F ls H locs hw hl) (fun q => kf q ad D ca A p l e R s m args below meth c cells slots Q C F ls H locs hw hl)
theorem g_if_ne {x : Int32} {off : Int} (tgt : Nat) (hd : decode cc pc = .ok (.ifCond .ne off, 3)) (ht : (pc : Int) + off = (tgt : Int)) (kt : ¬ x = 0 → Go X own cc nL d tgt lv st h r h') (kf : x = 0 → Go X own cc nL d (pc + 3) lv st h r h') : Go X own cc nL d pc lv (.int x :: st) h r h' :=
  fun ad D ca A p l e R s m args below meth c cells slots Q C F ls H locs hw hl => lv_if_ne C.1 C.2.1 hd ht (fun q => kt q ad D ca A p l e R s m args below meth c cells slots Q C F ls H locs hw hl) (fun q => kf q ad D ca A p l e R s m args below meth c cells slots Q C F ls H locs hw hl)
theorem g_if_lt {x : Int32} {off : Int} (tgt : Nat) (hd : decode cc pc = .ok (.ifCond .lt off, 3)) (ht : (pc : Int) + off = (tgt : Int)) (kt : x < 0 → Go X own cc nL d tgt lv st h r h') (kf : ¬ x < 0 → Go X own cc nL d (pc + 3) lv st h r h') : Go X own cc nL d pc lv (.int x :: st) h r h' :=
  fun ad D ca A p l e R s m args below meth c cells slots Q C F ls H locs hw hl => lv_if_lt C.1 C.2.1 hd ht (fun q => kt q ad D ca A p l e R s m args below meth c cells slots Q C F ls H locs hw hl) (fun q => kf q ad D ca A p l e R s m args below meth c cells slots Q C F ls H locs hw hl)
theorem g_if_ge {x : Int32} {off : Int} (tgt : Nat) (hd : decode cc pc = .ok (.ifCond .ge off, 3)) (ht : (pc : Int) + off = (tgt : Int)) (kt : 0 ≤ x → Go X own cc nL d tgt lv st h r h') (kf : ¬ 0 ≤ x → Go X own cc nL d (pc + 3) lv st h r h') : Go X own cc nL d pc lv (.int x :: st) h r h' :=
  fun ad D ca A p l e R s m args below meth c cells slots Q C F ls H locs hw hl => lv_if_ge C.1 C.2.1 hd ht (fun q => kt q ad D ca A p l e R s m args below meth c cells slots Q C F ls H locs hw hl) (fun q => kf q ad D ca A p l e R s m args below meth c cells slots Q C F ls H locs hw hl)
theorem g_if_gt {x : Int32} {off : Int} (tgt : Nat) (hd : decode cc pc = .ok (.ifCond .gt off, 3)) (ht : (pc : Int) + off = (tgt : Int)) (kt : 0 < x → Go X own cc nL d tgt lv st h r h') (kf : ¬ 0 < x → Go X own cc nL d (pc + 3) lv st h r h') : Go X own cc nL d pc lv (.int x :: st) h r h' :=
  fun ad D ca A p l e R s m args below meth c cells slots Q C F ls H locs hw hl => lv_if_gt C.1 C.2.1 hd ht (fun q => kt q ad D ca A p l e R s m args below meth c cells slots Q C F ls H locs hw hl) (fun q => kf q ad D ca A p l e R s m args below meth c cells slots Q C F ls H locs hw hl)
theorem g_if_le {x : Int32} {off : Int} (tgt : Nat) (hd : decode cc pc = .ok (.ifCond .le off, 3)) (ht : (pc : Int) + off = (tgt : Int)) (kt : x ≤ 0 → Go X own cc nL d tgt lv st h r h') (kf : ¬ x ≤ 0 → Go X own cc nL d (pc + 3) lv st h r h') : Go X own cc nL d pc lv (.int x :: st) h r h' :=
  fun ad D ca A p l e R s m args below meth c cells slots Q C F ls H locs hw hl => lv_if_le C.1 C.2.1 hd ht (fun q => kt q ad D ca A p l e R s m args below meth c cells slots Q C F ls H locs hw hl) (fun q => kf q ad D ca A p l e R s m args below meth c cells slots Q C F ls H locs hw hl)
theorem g_icmp_eq {x y : Int32} {off : Int} (tgt : Nat) (hd : decode cc pc = .ok (.if_icmp .eq off, 3)) (ht : (pc : Int) + off = (tgt : Int)) (kt : x = y → Go X own cc nL d tgt lv st h r h') (kf : ¬ x = y → Go X own cc nL d (pc + 3) lv st h r h') : Go X own cc nL d pc lv (.int y :: .int x :: st) h r h' :=
  fun ad D ca A p l e R s m args below meth c cells slots Q C F ls H locs hw hl => lv_icmp_eq C.1 C.2.1 hd ht (fun q => kt q ad D ca A p l e R s m args below meth c cells slots Q C F ls H locs hw hl) (fun q => kf q ad D ca A p l e R s m args below meth c cells slots Q C F ls H locs hw hl)
theorem g_icmp_ne {x y : Int32} {off : Int} (tgt : Nat) (hd : decode cc pc = .ok (.if_icmp .ne off, 3)) (ht : (pc : Int) + off = (tgt : Int)) (kt : ¬ x = y → Go X own cc nL d tgt lv st h r h') (kf : x = y → Go X own cc nL d (pc + 3) lv st h r h') : Go X own cc nL d pc lv (.int y :: .int x :: st) h r h' :=
  fun ad D ca A p l e R s m args below meth c cells slots Q C F ls H locs hw hl => lv_icmp_ne C.1 C.2.1 hd ht (fun q => kt q ad D ca A p l e R s m args below meth c cells slots Q C F ls H locs hw hl) (fun q => kf q ad D ca A p l e R s m args below meth c cells slots Q C F ls H locs hw hl)
theorem g_icmp_lt {x y : Int32} {off : Int} (tgt : Nat) (hd : decode cc pc = .ok (.if_icmp .lt off, 3)) (ht : (pc : Int) + off = (tgt : Int)) (kt : x < y → Go X own cc nL d tgt lv st h r h') (kf : ¬ x < y → Go X own cc nL d (pc + 3) lv st h r h') : Go X own cc nL d pc lv (.int y :: .int x :: st) h r h' :=
  fun ad D ca A p l e R s m args below meth c cells slots Q C F ls H locs hw hl => lv_icmp_lt C.1 C.2.1 hd ht (fun q => kt q ad D ca A p l e R s m args below meth c cells slots Q C F ls H locs hw hl) (fun q => kf q ad D ca A p l e R s m args below meth c cells slots Q C F ls H locs hw hl)
theorem g_icmp_ge {x y : Int32} {off : Int} (tgt : Nat) (hd : decode cc pc = .ok (.if_icmp .ge off, 3)) (ht : (pc : Int) + off = (tgt : Int)) (kt : y ≤ x → Go X own cc nL d tgt lv st h r h') (kf : ¬ y ≤ x → Go X own cc nL d (pc + 3) lv st h r h') : Go X own cc nL d pc lv (.int y :: .int x :: st) h r h' :=
  fun ad D ca A p l e R s m args below meth c cells slots Q C F ls H locs hw hl => lv_icmp_ge C.1 C.2.1 hd ht (fun q => kt q ad D ca A p l e R s m args below meth c cells slots Q C F ls H locs hw hl) (fun q => kf q ad D ca A p l e R s m args below meth c cells slots Q C F ls H locs hw hl)
theorem g_icmp_gt {x y : Int32} {off : Int} (tgt : Nat) (hd : decode cc pc = .ok (.if_icmp .gt off, 3)) (ht : (pc : Int) + off = (tgt : Int)) (kt : y < x → Go X own cc nL d tgt lv st h r h') (kf : ¬ y < x → Go X own cc nL d (pc + 3) lv st h r h') : Go X own cc nL d pc lv (.int y :: .int x :: st) h r h' :=
  fun ad D ca A p l e R s m args below meth c cells slots Q C F ls H locs hw hl => lv_icmp_gt C.1 C.2.1 hd ht (fun q => kt q ad D ca A p l e R s m args below meth c cells slots Q C F ls H locs hw hl) (fun q => kf q ad D ca A p l e R s m args below meth c cells slots Q C F ls H locs hw hl)
theorem g_icmp_le {x y : Int32} {off : Int} (tgt : Nat) (hd : decode cc pc = .ok (.if_icmp .le off, 3)) (ht : (pc : Int) + off = (tgt : Int)) (kt : x ≤ y → Go X own cc nL d tgt lv st h r h') (kf : ¬ x ≤ y → Go X own cc nL d (pc + 3) lv st h r h') : Go X own cc nL d pc lv (.int y :: .int x :: st) h r h' :=
  fun ad D ca A p l e R s m args below meth c cells slots Q C F ls H locs hw hl => lv_icmp_le C.1 C.2.1 hd ht (fun q => kt q ad D ca A p l e R s m args below meth c cells slots Q C F ls H locs hw hl) (fun q => kf q ad D ca A p l e R s m args below meth c cells slots Q C F ls H locs hw hl)
theorem g_goto {off : Int} (tgt : Nat) (hd : decode cc pc = .ok (.goto off, 3)) (ht : (pc : Int) + off = (tgt : Int)) (k : Go X own cc nL d tgt lv st h r h') : Go X own cc nL d pc lv st h r h' :=
  fun ad D ca A p l e R s m args below meth c cells slots Q C F ls H locs hw hl => lv_goto C.1 C.2.1 hd ht (k ad D ca A p l e R s m args below meth c cells slots Q C F ls H locs hw hl)
/-- a case of a table: it is v, or not -/
theorem g_tswc {dflt lo hi : Int} {offs : Array Int} {len : Nat} {x : Int32} (v : Int32) (n : Int) (off : Int) (tgt : Nat) (hd : decode cc pc = .ok (.tableswitch dflt lo hi offs, len)) (hv : v.toInt = n) (h1 : ¬ n < lo) (h2 : ¬ hi < n) (ho : offs[(n - lo).toNat]? = some off) (ht : (pc : Int) + off = (tgt : Int)) (kt : x = v → Go X own cc nL d tgt lv st h r h') (kf : ¬ x = v → ¬ x.toInt = n → Go X own cc nL d pc lv (.int x :: st) h r h') : Go X own cc nL d pc lv (.int x :: st) h r h' := by
  by_cases e : x = v
  · subst e; subst hv
    exact fun ad D ca A p l e R s m args below meth c cells slots Q C F ls H locs hw hl => lv_tableIn C.1 C.2.1 hd h1 h2 ho ht (kt rfl ad D ca A p l e R s m args below meth c cells slots Q C F ls H locs hw hl)
  · exact kf e (fun q => e (Int32.toInt_inj.mp (q.trans hv.symm)))
theorem g_tswd {dflt lo hi : Int} {offs : Array Int} {len : Nat} {x : Int32} (tgt : Nat) (hd : decode cc pc = .ok (.tableswitch dflt lo hi offs, len)) (hx : x.toInt < lo ∨ hi < x.toInt) (ht : (pc : Int) + dflt = (tgt : Int)) (k : Go X own cc nL d tgt lv st h r h') : Go X own cc nL d pc lv (.int x :: st) h r h' :=
  fun ad D ca A p l e R s m args below meth c cells slots Q C F ls H locs hw hl => lv_tableOut C.1 C.2.1 hd hx ht (k ad D ca A p l e R s m args below meth c cells slots Q C F ls H locs hw hl)
def lmask : List Bool → List Value → List Value
  | true :: b, v :: l => v :: lmask b l
  | false :: b, _ :: l => .null :: lmask b l
  | _, _ => []
theorem lmask_at : ∀ (b : List Bool) (l : List Value) (i : Nat) (v : Value), (lmask b l)[i]? = some v → nul v = false → l[i]? = some v
  | [], l, i, v, h, _ => by simp [lmask] at h
  | _ :: _, [], i, v, h, _ => by simp [lmask] at h
  | true :: b, u :: l, 0, v, h, _ => by simpa [lmask] using h
  | true :: b, u :: l, i + 1, v, h, hn => by
    have h1 : (lmask b l)[i]? = some v := by simpa [lmask] using h
    simpa using lmask_at b l i v h1 hn
  | false :: b, u :: l, 0, v, h, hn => by
    have h1 : Value.null = v := by simpa [lmask] using h
    rw [← h1] at hn; cases hn
  | false :: b, u :: l, i + 1, v, h, hn => by
    have h1 : (lmask b l)[i]? = some v := by simpa [lmask] using h
    simpa using lmask_at b l i v h1 hn
/-- what some locals hold is forgotten -/
theorem g_mask (b : List Bool) (k : Go X own cc nL d pc (lmask b lv) st h r h') : Go X own cc nL d pc lv st h r h' :=
  fun ad D ca A p l e R s m args below meth c cells slots Q C F ls H locs hw hl => k ad D ca A p l e R s m args below meth c cells slots Q C F ls H locs hw ⟨hl.1, hl.2.1, fun i v hi hn => hl.2.2 i v (lmask_at b lv i v hi hn) hn⟩
theorem g_ireturn {v : Int32} (hd : decode cc pc = .ok (.ireturn, 1)) (hv : some (.int v) = r) (hh : h = h') : Go X own cc nL d pc lv [.int v] h r h' := by
  subst hv; subst hh
  exact fun ad D ca A p l e R s m args below meth c cells slots Q C F ls H locs hw hl => F pc ls H locs hd hw
theorem g_lreturn {v : Int64} (hd : decode cc pc = .ok (.lreturn, 1)) (hv : some (.long v) = r) (hh : h = h') : Go X own cc nL d pc lv [.long v] h r h' := by
  subst hv; subst hh
  exact fun ad D ca A p l e R s m args below meth c cells slots Q C F ls H locs hw hl => F pc ls H locs hd hw
theorem g_areturn {v : Nat} (hd : decode cc pc = .ok (.areturn, 1)) (hv : some (.ref v) = r) (hh : h = h') : Go X own cc nL d pc lv [.ref v] h r h' := by
  subst hv; subst hh
  exact fun ad D ca A p l e R s m args below meth c cells slots Q C F ls H locs hw hl => F pc ls H locs hd hw
theorem g_return (hd : decode cc pc = .ok (.return_, 1)) (hv : none = r) (hh : h = h') : Go X own cc nL d pc lv [] h r h' := by
  subst hv; subst hh
  exact fun ad D ca A p l e R s m args below meth c cells slots Q C F ls H locs hw hl => F pc ls H locs hd hw
/-! fields -/
def FL (own : String) (idx ci k : Nat) : Prop := ∃ (C : String) (T : u_T) (N : Nat), vwCl[ci]? = some (C, T, N) ∧ k < N ∧ Cond.fieldLink own idx (T k).1 (T k).2.1 (T k).2.2.1 ∈ gT ∧ ∀ w ∈ u_ws C T N, w ∈ gT
def FP (ci k : Nat) (ty : FieldType) : Prop := ∃ (C : String) (T : u_T) (N : Nat) (ty0 : Nat → FieldType), vwCl[ci]? = some (C, T, N) ∧ (T k).2.2.2 = false ∧ parseFieldDescriptor (T k).2.2.1 = some ty ∧ (∀ k, k < N → parseFieldDescriptor (T k).2.2.1 = some (ty0 k)) ∧ ∀ a, a < N → ∀ b, b < N → a ≠ b → (T a).2.1 ≠ (T b).2.1
theorem g_get {idx i ci k : Nat} {fs : List Zf} {f : Zf} (hd : decode cc pc = .ok (.getfield idx, 3)) (hs : shp[i]? = some (.inl (ci, fs))) (hl0 : FL own idx ci k) (hf : fs[k]? = some f) {v : Value} (hv : ∀ ad, fV ad h f = cv ad v) (kk : Go X own cc nL d (pc + 3) lv (v :: st) h r h') : Go X own cc nL d pc lv (.ref i :: st) h r h' := by
  intro ad D ca A p l e R s m args below meth c cells slots Q C F ls H locs hw hl
  obtain ⟨C0, T, N, h1, h2, h3, h4⟩ := hl0
  have k1 := kk ad D ca A p l e R s m args below meth c cells slots Q C F ls H locs hw hl
  refine va_get C.1 C.2.1 C.2.2.2.2.1 h4 C.2.2.2.1 C.2.2.2.2.2.1 hw.1 i (wl_at hs) h1 k h2 (C.2.2.2.2.1 _ h3) (fun _ q => q) (v := cv ad v) ?_ hd k1
  rw [List.getElem?_map, hf, ← hv ad]
  rfl
theorem g_getI {idx i ci k g o : Nat} {fs : List Zf} (hd : decode cc pc = .ok (.getfield idx, 3)) (hl0 : FL own idx ci k) (hs : shp[i]? = some (.inl (ci, fs))) (hf : fs[k]? = some (.inr (g, o))) (kk : Go X own cc nL d (pc + 3) lv (.int (h g o) :: st) h r h') : Go X own cc nL d pc lv (.ref i :: st) h r h' := g_get hd hs hl0 hf (fun _ => rfl) kk
theorem g_getR {idx i ci k j : Nat} {fs : List Zf} (hd : decode cc pc = .ok (.getfield idx, 3)) (hl0 : FL own idx ci k) (hs : shp[i]? = some (.inl (ci, fs))) (hf : fs[k]? = some (.inl j)) (kk : Go X own cc nL d (pc + 3) lv (.ref j :: st) h r h') : Go X own cc nL d pc lv (.ref i :: st) h r h' := g_get hd hs hl0 hf (fun _ => rfl) kk
def ndF (fs : List Zf) : Bool := (List.range fs.length).all fun a => (List.range fs.length).all fun b => a == b || match fs[a]?, fs[b]? with
  | some (.inr p), some (.inr q) => !(p == q)
  | _, _ => true
def shpNd : Bool := shp.all fun s => match s with
  | .inl (_, fs) => ndF fs
  | _ => true
theorem shpNd_ok : shpNd = true := by decide +kernel
theorem ndF_ok {fs : List Zf} (h : ndF fs = true) {a b g o : Nat} (ha : fs[a]? = some (.inr (g, o))) (hb : fs[b]? = some (.inr (g, o))) : a = b := by
  have h1 := List.all_eq_true.mp (List.all_eq_true.mp h a (List.mem_range.mpr (List.getElem?_eq_some_iff.mp ha).1)) b (List.mem_range.mpr (List.getElem?_eq_some_iff.mp hb).1)
  rw [ha, hb] at h1
  by_cases e : a = b
  · exact e
  · simp [e] at h1
theorem shp_nd {i ci : Nat} {fs : List Zf} (hs : shp[i]? = some (.inl (ci, fs))) : ndF fs = true := by
  have := List.all_eq_true.mp shpNd_ok _ (List.mem_of_getElem? hs)
  exact this
theorem occF_in : ∀ (fs : List Zf) (k g o : Nat), fs[k]? = some (.inr (g, o)) → inP (occF fs) g o
  | [], k, g, o, h => by simp at h
  | .inl j :: r, 0, g, o, h => by simp at h
  | .inl j :: r, k + 1, g, o, h => occF_in r k g o (by simpa using h)
  | .inr q :: r, 0, g, o, h => by
    have e : q = (g, o) := by simpa using h
    subst e
    exact ⟨(g, o, 1), List.mem_cons_self, rfl, Nat.le_refl _, Nat.lt_succ_self _⟩
  | .inr (g2, o2) :: r, k + 1, g, o, h => by
    obtain ⟨q, h1, h2⟩ := occF_in r k g o (by simpa using h)
    exact ⟨q, List.mem_cons_of_mem _ h1, h2⟩
theorem fs_put {fs : List Zf} (hn : ndF fs = true) {k g o : Nat} (hk : fs[k]? = some (.inr (g, o))) (ad : Nat → Nat) (h : Hp) (v : Int32) : fs.map (fV ad (up h g o v)) = (fs.map (fV ad h)).set k (.int v) := by
  apply List.ext_getElem?
  intro j
  by_cases e : k = j
  · subst e
    have hl : k < (fs.map (fV ad h)).length := by rw [List.length_map]; exact (List.getElem?_eq_some_iff.mp hk).1
    rw [List.getElem?_set_self hl, List.getElem?_map, hk]
    show some (Value.int (up h g o v g o)) = _
    rw [up_s]
  · rw [List.getElem?_set_ne e, List.getElem?_map, List.getElem?_map]
    cases hj : fs[j]? with
    | none => rfl
    | some f =>
      cases f with
      | inl a => rfl
      | inr q =>
        obtain ⟨g2, o2⟩ := q
        show some (Value.int (up h g o v g2 o2)) = some (Value.int (h g2 o2))
        rw [up_n]
        rintro ⟨rfl, rfl⟩
        exact e (ndF_ok hn hk hj)
theorem g_put {idx i ci k g o : Nat} {fs : List Zf} {v : Int32} {ty : FieldType} (hd : decode cc pc = .ok (.putfield idx, 3)) (hl0 : FL own idx ci k) (hp : FP ci k ty) (hs : shp[i]? = some (.inl (ci, fs))) (hf : fs[k]? = some (.inr (g, o))) (hn : narrow ty (.int v) = .int v) (hfit : fits ty (.int v) = true) (kk : Go X own cc nL d (pc + 3) lv st (up h g o v) r h') : Go X own cc nL d pc lv (.int v :: .ref i :: st) h r h' := by
  intro ad D ca A p l e R s m args below meth c cells slots Q C F ls H locs hw hl
  obtain ⟨C0, T, N, h1, h2, h3, h4⟩ := hl0
  obtain ⟨C1, T1, N1, ty0, p1, p2, p3, p4, p5⟩ := hp
  cases Option.some.inj (h1.symm.trans p1)
  have hk : k < fs.length := (List.getElem?_eq_some_iff.mp hf).1
  refine va_put C.1 C.2.1 C.2.2.2.2.1 h4 ty0 p4 p5 C.2.2.2.1 C.2.2.2.2.2.1 hw.1 (C.2.2.2.2.2.2.2.1.D ca h) hw.2 i (wl_at hs) h1 k h2 (C.2.2.2.2.1 _ h3) (fun _ q => q) p2 (v := .int v) p3 hn hfit (by rw [List.length_map]; exact hk) hd (fun H1 locs1 a1 a2 a3 => ?_)
  refine kk ad D ca A p l e R s m args below meth c cells slots Q C F ls H1 locs1 ⟨WP.upd hs a1 (fun q => ?_) (fun g2 k2 q => ?_), a3⟩ hl
  · show va_at D vwCl (ad i, .inr (ci, fs.map (fV ad (up h g o v)))) H1
    rw [fs_put (shp_nd hs) hf]
    exact q
  · exact up_n h v (fun ⟨e1, e2⟩ => q (by rw [e1, e2]; exact occF_in fs k g o hf))
theorem g_putI {idx i ci k g o : Nat} {fs : List Zf} {v : Int32} (hd : decode cc pc = .ok (.putfield idx, 3)) (hl0 : FL own idx ci k) (hp : FP ci k .int) (hs : shp[i]? = some (.inl (ci, fs))) (hf : fs[k]? = some (.inr (g, o))) (kk : Go X own cc nL d (pc + 3) lv st (up h g o v) r h') : Go X own cc nL d pc lv (.int v :: .ref i :: st) h r h' := g_put hd hl0 hp hs hf rfl rfl kk
/-! arrays -/
def shpSm : Bool := shp.all fun s => match s with
  | .inr (_, n, _, _) => Nat.ble n 160
  | _ => true
theorem shpSm_ok : shpSm = true := by decide +kernel
theorem shp_sm {i t n g o : Nat} (hs : shp[i]? = some (.inr (t, n, g, o))) : n < 2 ^ 31 := by
  have h1 : Nat.ble n 160 = true := List.all_eq_true.mp shpSm_ok _ (List.mem_of_getElem? hs)
  have h2 := Nat.le_of_ble_eq_true h1
  omega
theorem cE_arr {ad : Nat → Nat} {ca : Nat → ClassId} {h : Hp} {t n g o : Nat} (ht : t ≠ 2) : cE ad ca h (.inr (t, n, g, o)) = .inl (ca t, n, .inl (fun j => h g (o + j))) := by simp [cE, ht]
theorem g_iald {i n g o : Nat} {j : Int32} (q : Nat) (hd : decode cc pc = .ok (.iaload, 1)) (hs : shp[i]? = some (.inr (0, n, g, o))) (hj : j = nI q) (hq : q < n) (kk : Go X own cc nL d (pc + 1) lv (.int (h g (o + q)) :: st) h r h') : Go X own cc nL d pc lv (.int j :: .ref i :: st) h r h' := by
  subst hj
  intro ad D ca A p l e R s m args below meth c cells slots Q C F ls H locs hw hl
  have hb := Nat.lt_trans hq (shp_sm hs)
  have k1 := kk ad D ca A p l e R s m args below meth c cells slots Q C F ls H locs hw hl
  have hi : (wl ad ca h)[i]? = some (ad i, .inl (ca 0, n, .inl (fun j => h g (o + j)))) := by rw [wl_at hs, cE_arr (by decide)]
  refine va_iald C.1 C.2.1 C.2.2.2.2.2.1 hw.1 i 0 hi rfl (vp_in_nI hq (shp_sm hs)) hd ?_
  rw [nI_clamp hb]
  exact k1
theorem g_bald {i n g o : Nat} {j : Int32} (q : Nat) (hd : decode cc pc = .ok (.baload, 1)) (hs : shp[i]? = some (.inr (1, n, g, o))) (hj : j = nI q) (hq : q < n) (kk : Go X own cc nL d (pc + 1) lv (.int (h g (o + q)) :: st) h r h') : Go X own cc nL d pc lv (.int j :: .ref i :: st) h r h' := by
  subst hj
  intro ad D ca A p l e R s m args below meth c cells slots Q C F ls H locs hw hl
  have hb := Nat.lt_trans hq (shp_sm hs)
  have k1 := kk ad D ca A p l e R s m args below meth c cells slots Q C F ls H locs hw hl
  have hi : (wl ad ca h)[i]? = some (ad i, .inl (ca 1, n, .inl (fun j => h g (o + j)))) := by rw [wl_at hs, cE_arr (by decide)]
  refine va_bald C.1 C.2.1 C.2.2.2.2.2.1 hw.1 i 1 hi rfl (vp_in_nI hq (shp_sm hs)) hd ?_
  rw [nI_clamp hb]
  exact k1
theorem g_aald {j : Int32} (q : Nat) (hd : decode cc pc = .ok (.aaload, 1)) (hj : j = nI q) (hq : q < 4) (kk : Go X own cc nL d (pc + 1) lv (.ref (19 + 2 * q) :: st) h r h') : Go X own cc nL d pc lv (.int j :: .ref 18 :: st) h r h' := by
  subst hj
  intro ad D ca A p l e R s m args below meth c cells slots Q C F ls H locs hw hl
  have k1 := kk ad D ca A p l e R s m args below meth c cells slots Q C F ls H locs hw hl
  have hi : (wl ad ca h)[18]? = some (ad 18, .inl (ca 2, 4, .inr (.inr (.inr (.inr (fun j => some (ad (19 + 2 * j)))))))) := wl_at (s := .inr (2, 4, 0, 100)) rfl
  refine va_aldq C.1 C.2.1 C.2.2.2.2.2.1 hw.1 18 2 hi rfl (vp_in_nI hq (by decide)) hd ?_
  rw [nI_clamp (by omega)]
  exact k1
theorem arr_put {D : va_G} {ad : Nat → Nat} {ca : Nat → ClassId} {h : Hp} {H1 : Heap} {i t n g o q : Nat} {x : Int32} (ht : t ≠ 2) (hs : shp[i]? = some (.inr (t, n, g, o))) (hq : q < n) (w : va_P D vwCl ((wl ad ca h).set i (ad i, .inl (ca t, n, .inl (upd (fun j => h g (o + j)) q x)))) H1) : WP D ad ca (up h g (o + q) x) H1 := by
  refine WP.upd hs w (fun a => ?_) (fun g2 k2 b => ?_)
  · rw [cE_arr ht]
    have e : (fun j => up h g (o + q) x g (o + j)) = upd (fun j => h g (o + j)) q x := by
      funext j
      unfold upd
      by_cases e : j = q
      · rw [if_pos e, e, up_s]
      · rw [if_neg e, up_n]
        omega
    rw [e]
    exact a
  · exact up_n h x (fun ⟨e1, e2⟩ => b ⟨(g, o, n), by simp [occ, ht], e1.symm, by show o ≤ k2; omega, by show k2 < o + n; omega⟩)
theorem g_iast {i n g o : Nat} {j x : Int32} (q : Nat) (hd : decode cc pc = .ok (.iastore, 1)) (hs : shp[i]? = some (.inr (0, n, g, o))) (hj : j = nI q) (hq : q < n) (kk : Go X own cc nL d (pc + 1) lv st (up h g (o + q) x) r h') : Go X own cc nL d pc lv (.int x :: .int j :: .ref i :: st) h r h' := by
  subst hj
  intro ad D ca A p l e R s m args below meth c cells slots Q C F ls H locs hw hl
  have hb := Nat.lt_trans hq (shp_sm hs)
  have hi : (wl ad ca h)[i]? = some (ad i, .inl (ca 0, n, .inl (fun j => h g (o + j)))) := by rw [wl_at hs, cE_arr (by decide)]
  refine va_iast C.1 C.2.1 C.2.2.2.2.2.1 hw.1 (C.2.2.2.2.2.2.2.1.D ca h) hw.2 i 0 hi rfl (vp_in_nI hq (shp_sm hs)) hd (fun H1 locs1 a1 a2 a3 => ?_)
  rw [nI_clamp hb] at a1
  exact kk ad D ca A p l e R s m args below meth c cells slots Q C F ls H1 locs1 ⟨arr_put (by decide) hs hq a1, a3⟩ hl
theorem g_bast {i n g o : Nat} {j x : Int32} (q : Nat) (hd : decode cc pc = .ok (.bastore, 1)) (hs : shp[i]? = some (.inr (1, n, g, o))) (hj : j = nI q) (hq : q < n) (hx : x.toInt8.toInt32 = x) (kk : Go X own cc nL d (pc + 1) lv st (up h g (o + q) x) r h') : Go X own cc nL d pc lv (.int x :: .int j :: .ref i :: st) h r h' := by
  subst hj
  intro ad D ca A p l e R s m args below meth c cells slots Q C F ls H locs hw hl
  have hb := Nat.lt_trans hq (shp_sm hs)
  have hi : (wl ad ca h)[i]? = some (ad i, .inl (ca 1, n, .inl (fun j => h g (o + j)))) := by rw [wl_at hs, cE_arr (by decide)]
  refine va_bast C.1 C.2.1 C.2.2.2.2.2.1 hw.1 (C.2.2.2.2.2.2.2.1.D ca h) hw.2 i 1 hi rfl (vp_in_nI hq (shp_sm hs)) hd (fun H1 locs1 a1 a2 a3 => ?_)
  rw [nI_clamp hb, vp_nar_byte, hx] at a1
  exact kk ad D ca A p l e R s m args below meth c cells slots Q C F ls H1 locs1 ⟨arr_put (by decide) hs hq a1, a3⟩ hl
/-! what is only read -/
theorem g_gets {idx i : Nat} {C0 n : String} {l0 : List Int32} (hd : decode cc pc = .ok (.getstatic idx, 3)) (hr : ∀ (ad : Nat → Nat) (A : Nat → Prop) (U : State) (H : Heap), Ro X ad A U H → sArr C0 n l0 (ad i) A U H) (hk : Cond.fieldLink own idx C0 n "[I" ∈ gT) (kk : Go X own cc nL d (pc + 3) lv (.ref i :: st) h r h') : Go X own cc nL d pc lv st h r h' :=
  fun ad D ca A p l e R s m args below meth c cells slots Q C F ls H locs hw hl => va_gets C.1 C.2.1 (hr ad A s s.heap C.2.2.2.2.2.2.1).1 hw.2 C.2.2.2.1 (C.2.2.2.2.1 _ hk) (fun _ q => q) hd (kk ad D ca A p l e R s m args below meth c cells slots Q C F ls H locs hw hl)
theorem g_ildr {i : Nat} {C0 n : String} {l0 : List Int32} {j : Int32} (q : Nat) (hd : decode cc pc = .ok (.iaload, 1)) (hr : ∀ (ad : Nat → Nat) (A : Nat → Prop) (U : State) (H : Heap), Ro X ad A U H → sArr C0 n l0 (ad i) A U H) (hj : j = nI q) (hq : q < l0.length) (hn : l0.length < 2 ^ 31) (kk : Go X own cc nL d (pc + 1) lv (.int (l0.getD q 0) :: st) h r h') : Go X own cc nL d pc lv (.int j :: .ref i :: st) h r h' := by
  subst hj
  intro ad D ca A p l e R s m args below meth c cells slots Q C F ls H locs hw hl
  exact va_ti C.1 C.2.1 (hr ad A s s.heap C.2.2.2.2.2.2.1).2 hw.2 (vp_in_nI hq hn) (by rw [nI_clamp (Nat.lt_trans hq hn)]; rfl) hd (kk ad D ca A p l e R s m args below meth c cells slots Q C F ls H locs hw hl)
theorem g_sld {j : Int32} (q : Nat) (hd : decode cc pc = .ok (.iaload, 1)) (hj : j = nI q) (hq : q < X.2) (hn : X.2 < 2 ^ 31) (kk : Go X own cc nL d (pc + 1) lv (.int (X.1 q) :: st) h r h') : Go X own cc nL d pc lv (.int j :: .ref 104 :: st) h r h' := by
  subst hj
  intro ad D ca A p l e R s m args below meth c cells slots Q C F ls H locs hw hl
  obtain ⟨x1, x2, x3⟩ := C.2.2.2.2.2.2.1.2.2.2.2.1
  have k1 := kk ad D ca A p l e R s m args below meth c cells slots Q C F ls H locs hw hl
  refine va_sld C.1 C.2.1 x1 x2 x3 hw.2 (vp_in_nI hq hn) hd ?_
  rw [nI_clamp (Nat.lt_trans hq hn)]
  exact k1
theorem g_slen (hd : decode cc pc = .ok (.arraylength, 1)) (kk : Go X own cc nL d (pc + 1) lv (.int (nI X.2) :: st) h r h') : Go X own cc nL d pc lv (.ref 104 :: st) h r h' := by
  intro ad D ca A p l e R s m args below meth c cells slots Q C F ls H locs hw hl
  obtain ⟨x1, x2, x3⟩ := C.2.2.2.2.2.2.1.2.2.2.2.1
  exact va_slen C.1 C.2.1 x1 x2 x3 hw.2 hd (kk ad D ca A p l e R s m args below meth c cells slots Q C F ls H locs hw hl)
theorem ro0 (ad : Nat → Nat) (A : Nat → Prop) (U : State) (H : Heap) (q : Ro X ad A U H) : sArr "ForkInn$Inn" "KIND_ABOVE" kndAbove (ad 100) A U H := q.1
theorem ro1 (ad : Nat → Nat) (A : Nat → Prop) (U : State) (H : Heap) (q : Ro X ad A U H) : sArr "ForkInn$Inn" "DISH_TOPS" dshTops (ad 101) A U H := q.2.1
theorem ro2 (ad : Nat → Nat) (A : Nat → Prop) (U : State) (H : Heap) (q : Ro X ad A U H) : sArr "ForkInn$Inn" "GUEST_TOPS" gstTops (ad 102) A U H := q.2.2.1
theorem ro3 (ad : Nat → Nat) (A : Nat → Prop) (U : State) (H : Heap) (q : Ro X ad A U H) : sArr "ForkInnModel" "NAMES" nmes (ad 103) A U H := q.2.2.2.1
theorem g_ldcS {idx : Nat} (i : Nat) (hi : i < 13) (hd : decode cc pc = .ok (.ldc idx, 2)) (ho : own = "ForkInn$Tape") (hx : (txs.getD i ("", 0)).2 = idx) (kk : Go X own cc nL d (pc + 2) lv (.ref (110 + i) :: st) h r h') : Go X own cc nL d pc lv st h r h' := by
  subst hx; subst ho
  exact fun ad D ca A p l e R s m args below meth c cells slots Q C F ls H locs hw hl => va_ldcS C.1 C.2.1 C.2.2.2.1 (C.2.2.2.2.2.2.1.2.2.2.2.2.1 i hi) hd (kk ad D ca A p l e R s m args below meth c cells slots Q C F ls H locs hw hl)
end GO
