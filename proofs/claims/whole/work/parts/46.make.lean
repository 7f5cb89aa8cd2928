/-! MAKING THINGS -/
def Mx (D : va_G) (ca : Nat → ClassId) (A : Nat → Prop) (p : Program) (R : Room) (s : State) (m : MethodId) (args : Array Value) (c : Code) (own : String) (cc : ByteArray) (nL fr mc ms : Nat) : Prop :=
  p.tables.exec = Jvm.exec ∧ c.code = cc ∧ c.maxLocals = nL ∧ s.vm.findClass own = some m.cls ∧ (∀ w ∈ gT, w.before args s = true) ∧ va_K D vwCl (tysOf ca) s ∧ (∀ q : Nat, s.heap.size ≤ q → A q) ∧ va_AO "ForkInn$Sheet" s ∧ (fr ≤ R.frames ∧ 60 * fr ≤ R.locals) ∧ mc ≤ R.cells ∧ ms ≤ R.slots
def Mw (D : va_G) (ws : va_W) (A : Nat → Prop) (H0 H : Heap) (locs : List Loc) : Prop := va_P D vwCl ws H ∧ va_D A ws ∧ va_S A H0 H locs
abbrev Ms : Type := Nat → List (Nat × Value) → List Value → va_W → Nat → Nat → Prop
/-- from here the maker comes to one of the ends E -/
def Bd (D : va_G) (ca : Nat → ClassId) (ini : Bool) (own : String) (cc : ByteArray) (nL fr mc ms : Nat) (E : Ms) (pc : Nat) (lv : List (Nat × Value)) (st : List Value) (ws : va_W) (cells slots : Nat) : Prop :=
  ∀ (A : Nat → Prop) (p : Program) (l : Launch) (e : Env) (R : Room) (s : State) (m : MethodId) (args : Array Value) (below : List Frame) (meth : Method) (c : Code) (Q : State → Prop),
    Mx D ca A p R s m args c own cc nL fr mc ms → (ini = true → meth.name = "<init>") →
    (∀ (pc : Nat) (lv : List (Nat × Value)) (st : List Value) (ws : va_W) (cells slots : Nat) (ls : Array Slot) (H : Heap) (locs : List Loc), E pc lv st ws cells slots → Mw D ws A s.heap H locs → lv_has ls nL lv → W p l e R s m args below meth c H locs cells slots Q (F0 m pc ls st)) →
    ∀ (ls : Array Slot) (H : Heap) (locs : List Loc), Mw D ws A s.heap H locs → lv_has ls nL lv → W p l e R s m args below meth c H locs cells slots Q (F0 m pc ls st)
section BD
variable {D : va_G} {ca : Nat → ClassId} {ini : Bool} {own : String} {cc : ByteArray} {nL fr mc ms : Nat} {E : Ms} {pc : Nat} {lv : List (Nat × Value)} {st : List Value} {ws : va_W} {cells slots : Nat}
theorem b_end (h : E pc lv st ws cells slots) : Bd D ca ini own cc nL fr mc ms E pc lv st ws cells slots :=
  fun A p l e R s m args below meth c Q C I F ls H locs hw hl => F pc lv st ws cells slots ls H locs h hw hl
theorem b_ws (ws2 : va_W) (h : ws = ws2) (k : Bd D ca ini own cc nL fr mc ms E pc lv st ws2 cells slots) : Bd D ca ini own cc nL fr mc ms E pc lv st ws cells slots := h ▸ k
theorem b_aload_n {k : Fin 4} {x : Nat} (j : Nat) (hd : decode cc pc = .ok (.aload_n k, 1)) (h : lv[j]? = some ((k : Nat), .ref x)) (kk : Bd D ca ini own cc nL fr mc ms E (pc + 1) lv (.ref x :: st) ws cells slots) : Bd D ca ini own cc nL fr mc ms E pc lv st ws cells slots :=
  fun A p l e R s m args below meth c Q C I F ls H locs hw hl => lv_aload_n C.1 C.2.1 hd rfl (lv_at hl j h) (kk A p l e R s m args below meth c Q C I F ls H locs hw hl)
theorem b_iload_n {k : Fin 4} {x : Int32} (j : Nat) (hd : decode cc pc = .ok (.iload_n k, 1)) (h : lv[j]? = some ((k : Nat), .int x)) (kk : Bd D ca ini own cc nL fr mc ms E (pc + 1) lv (.int x :: st) ws cells slots) : Bd D ca ini own cc nL fr mc ms E pc lv st ws cells slots :=
  fun A p l e R s m args below meth c Q C I F ls H locs hw hl => lv_iload_n C.1 C.2.1 hd rfl (lv_at hl j h) (kk A p l e R s m args below meth c Q C I F ls H locs hw hl)
theorem b_istore_n {k : Fin 4} {x : Int32} (lv' : List (Nat × Value)) (hd : decode cc pc = .ok (.istore_n k, 1)) (hn : (k : Nat) < nL) (h : ((k : Nat), Value.int x) :: lv.filter (fun q => !(q.1 == (k : Nat)) && !(q.1 + 1 == (k : Nat) && q.2.category == 2)) = lv') (kk : Bd D ca ini own cc nL fr mc ms E (pc + 1) lv' st ws cells slots) : Bd D ca ini own cc nL fr mc ms E pc lv (.int x :: st) ws cells slots :=
  fun A p l e R s m args below meth c Q C I F ls H locs hw hl => lv_istore_n C.1 C.2.1 hd rfl hl hn h (fun ls hl => kk A p l e R s m args below meth c Q C I F ls H locs hw hl)
theorem b_astore_n {k : Fin 4} {x : Nat} (lv' : List (Nat × Value)) (hd : decode cc pc = .ok (.astore_n k, 1)) (hn : (k : Nat) < nL) (h : ((k : Nat), Value.ref x) :: lv.filter (fun q => !(q.1 == (k : Nat)) && !(q.1 + 1 == (k : Nat) && q.2.category == 2)) = lv') (kk : Bd D ca ini own cc nL fr mc ms E (pc + 1) lv' st ws cells slots) : Bd D ca ini own cc nL fr mc ms E pc lv (.ref x :: st) ws cells slots :=
  fun A p l e R s m args below meth c Q C I F ls H locs hw hl => lv_astore_n C.1 C.2.1 hd rfl hl hn h (fun ls hl => kk A p l e R s m args below meth c Q C I F ls H locs hw hl)
theorem b_iinc {i j : Nat} {n : Int} {x v : Int32} (lv' : List (Nat × Value)) (hd : decode cc pc = .ok (.iinc i n, 3)) (hk : lv[j]? = some (i, .int x)) (hv : x + Int32.ofInt n = v) (hn : i < nL) (h : (i, Value.int v) :: lv.filter (fun q => !(q.1 == i) && !(q.1 + 1 == i && q.2.category == 2)) = lv') (kk : Bd D ca ini own cc nL fr mc ms E (pc + 3) lv' st ws cells slots) : Bd D ca ini own cc nL fr mc ms E pc lv st ws cells slots :=
  fun A p l e R s m args below meth c Q C I F ls H locs hw hl => lv_iinc C.1 C.2.1 hd hl hk hv hn h (fun ls hl => kk A p l e R s m args below meth c Q C I F ls H locs hw hl)
theorem b_iconst {n : Int} {v : Int32} (hd : decode cc pc = .ok (.iconst n, 1)) (hv : Int32.ofInt n = v) (kk : Bd D ca ini own cc nL fr mc ms E (pc + 1) lv (.int v :: st) ws cells slots) : Bd D ca ini own cc nL fr mc ms E pc lv st ws cells slots :=
  fun A p l e R s m args below meth c Q C I F ls H locs hw hl => lv_iconst C.1 C.2.1 hd hv (kk A p l e R s m args below meth c Q C I F ls H locs hw hl)
theorem b_bipush {n : Int} {v : Int32} (hd : decode cc pc = .ok (.bipush n, 2)) (hv : (Int8.ofInt n).toInt32 = v) (kk : Bd D ca ini own cc nL fr mc ms E (pc + 2) lv (.int v :: st) ws cells slots) : Bd D ca ini own cc nL fr mc ms E pc lv st ws cells slots :=
  fun A p l e R s m args below meth c Q C I F ls H locs hw hl => lv_bipush C.1 C.2.1 hd hv (kk A p l e R s m args below meth c Q C I F ls H locs hw hl)
theorem b_sipush {n : Int} {v : Int32} (hd : decode cc pc = .ok (.sipush n, 3)) (hv : (Int16.ofInt n).toInt32 = v) (kk : Bd D ca ini own cc nL fr mc ms E (pc + 3) lv (.int v :: st) ws cells slots) : Bd D ca ini own cc nL fr mc ms E pc lv st ws cells slots :=
  fun A p l e R s m args below meth c Q C I F ls H locs hw hl => lv_sipush C.1 C.2.1 hd hv (kk A p l e R s m args below meth c Q C I F ls H locs hw hl)
theorem b_dup {x : Nat} (hd : decode cc pc = .ok (.dup, 1)) (kk : Bd D ca ini own cc nL fr mc ms E (pc + 1) lv (.ref x :: .ref x :: st) ws cells slots) : Bd D ca ini own cc nL fr mc ms E pc lv (.ref x :: st) ws cells slots :=
  fun A p l e R s m args below meth c Q C I F ls H locs hw hl => lv_dup C.1 C.2.1 hd rfl (kk A p l e R s m args below meth c Q C I F ls H locs hw hl)
theorem b_goto {off : Int} (tgt : Nat) (hd : decode cc pc = .ok (.goto off, 3)) (ht : (pc : Int) + off = (tgt : Int)) (kk : Bd D ca ini own cc nL fr mc ms E tgt lv st ws cells slots) : Bd D ca ini own cc nL fr mc ms E pc lv st ws cells slots :=
  fun A p l e R s m args below meth c Q C I F ls H locs hw hl => lv_goto C.1 C.2.1 hd ht (kk A p l e R s m args below meth c Q C I F ls H locs hw hl)
theorem b_ge_t {x y : Int32} {off : Int} (tgt : Nat) (hd : decode cc pc = .ok (.if_icmp .ge off, 3)) (ht : (pc : Int) + off = (tgt : Int)) (h : y ≤ x) (kk : Bd D ca ini own cc nL fr mc ms E tgt lv st ws cells slots) : Bd D ca ini own cc nL fr mc ms E pc lv (.int y :: .int x :: st) ws cells slots :=
  fun A p l e R s m args below meth c Q C I F ls H locs hw hl => lv_icmp_ge C.1 C.2.1 hd ht (fun _ => kk A p l e R s m args below meth c Q C I F ls H locs hw hl) (fun q => absurd h q)
theorem b_ge_f {x y : Int32} {off : Int} (tgt : Nat) (hd : decode cc pc = .ok (.if_icmp .ge off, 3)) (ht : (pc : Int) + off = (tgt : Int)) (h : ¬ y ≤ x) (kk : Bd D ca ini own cc nL fr mc ms E (pc + 3) lv st ws cells slots) : Bd D ca ini own cc nL fr mc ms E pc lv (.int y :: .int x :: st) ws cells slots :=
  fun A p l e R s m args below meth c Q C I F ls H locs hw hl => lv_icmp_ge C.1 C.2.1 hd ht (fun q => absurd q h) (fun _ => kk A p l e R s m args below meth c Q C I F ls H locs hw hl)
theorem ob_i : Cond.instanceMethod Lib.objectInit ∈ gT := gT_in (List.mem_of_getElem? (i := 72) (by decide +kernel)) (by decide +kernel)
theorem ob_c : Cond.code Lib.objectInit ⟨#[0xb1]⟩ 1 none ∈ gT := gT_in (List.mem_of_getElem? (i := 73) (by decide +kernel)) (by decide +kernel)
theorem b_obj {a idx : Nat} (hd : decode cc pc = .ok (.invokespecial idx, 3)) (hL : Cond.methodLink own idx Lib.objectInit ∈ gT) (hf : 1 ≤ fr) (hst : (st.map fun v => v.category).sum ≤ 8) (kk : Bd D ca ini own cc nL fr mc ms E (pc + 3) lv st ws cells slots) : Bd D ca ini own cc nL fr mc ms E pc lv (.ref a :: st) ws cells slots := by
  intro A p l e R s m args below meth c Q C I F ls H locs hw hl
  obtain ⟨c1, c2, c3, c4, c5, c6, c7, c8, ⟨c9, c10⟩, c11, c12⟩ := id C
  refine W.objInit c1 c2 c4 (c5 _ hL) (c5 _ ob_i) (c5 _ ob_c) rfl (by rw [c3]; exact hl.1) rfl hd (by omega) ?_ (kk A p l e R s m args below meth c Q C I F ls H locs hw hl)
  show 2 * 0 + (st.map fun v => v.category).sum + 12 ≤ R.locals
  omega
theorem arr_ca {U : State} {cA : ClassId} {ty : FieldType} (k : Nat) (hk : (tysOf ca)[k]? = some (ca k, ty)) (h : va_K D vwCl (tysOf ca) U) (h2 : va_RA U cA ty) : cA = ca k := by
  have h1 := (h.2 k _ hk).2
  cases ty with
  | object C =>
    obtain ⟨_, _, _, _, _, a⟩ := h1
    obtain ⟨_, _, _, _, _, b⟩ := h2
    exact Option.some.inj (b.symm.trans a)
  | _ => exact Option.some.inj (h2.symm.trans h1)
theorem b_newa {atype : ArrayType} {ty : FieldType} {n : Int32} (k N : Nat) (hd : decode cc pc = .ok (.newarray atype, 2)) (harr : Cond.arrayClass (newarray.typeOf atype) ∈ gT) (hty : newarray.typeOf atype = ty) (hk : (tysOf ca)[k]? = some (ca k, ty)) (hdef : defaultValue ty = .int 0) (hn : n = nI N) (hb : N * componentBytes ty ≤ 536870912) (hN : N < 2 ^ 31) (hc : cells + 1 ≤ mc) (hs : slots + N ≤ ms)
    (kk : ∀ q : Nat, Bd D ca ini own cc nL fr mc ms E (pc + 2) lv (.ref q :: st) (ws ++ [(q, .inl (ca k, N, .inl (fun _ => 0)))]) (cells + 1) (slots + N)) : Bd D ca ini own cc nL fr mc ms E pc lv (.int n :: st) ws cells slots := by
  intro A p l e R s m args below meth c Q C I F ls H locs hw hl
  obtain ⟨c1, c2, c3, c4, c5, c6, c7, c8, ⟨c9, c10⟩, c11, c12⟩ := id C
  subst hn
  refine va_newa (a0 := (N, .inl (fun _ => 0))) c1 c2 (c5 _ harr) hty c6 hw.1 hw.2.1 hw.2.2 c7 (fun cA => by rw [vp_cell_i, hdef]) (fun z => nI_pos hN z) (nI_clamp hN) hb (by omega) (by omega) hd (fun q cA H1 k1 k2 k3 k4 => ?_)
  have e1 : cA = ca k := arr_ca k hk c6 (k1.2 (tysOf ca).length (cA, ty) (by rw [List.getElem?_append_right (Nat.le_refl _), Nat.sub_self]; rfl)).2
  subst e1
  exact kk q A p l e R s m args below meth c Q C I F ls H1 locs ⟨k2, k3, k4⟩ hl
theorem b_newq {n : Int32} {idx : Nat} (N : Nat) (hd : decode cc pc = .ok (.anewarray idx, 3)) (hcl : Cond.classLink own idx "ForkInn$Sheet" ∈ gT) (hn : n = nI N) (hb : N * 4 ≤ 536870912) (hN : N < 2 ^ 31) (hc : cells + 1 ≤ mc) (hs : slots + N ≤ ms)
    (kk : ∀ q : Nat, Bd D ca ini own cc nL fr mc ms E (pc + 3) lv (.ref q :: st) (ws ++ [(q, .inl (ca 2, N, .inr (.inr (.inr (.inr (fun _ => none))))))]) (cells + 1) (slots + N)) : Bd D ca ini own cc nL fr mc ms E pc lv (.int n :: st) ws cells slots := by
  intro A p l e R s m args below meth c Q C I F ls H locs hw hl
  obtain ⟨c1, c2, c3, c4, c5, c6, c7, c8, ⟨c9, c10⟩, c11, c12⟩ := id C
  subst hn
  refine va_newq c1 c2 c4 (c5 _ hcl) c8 c6 hw.1 hw.2.1 hw.2.2 c7 (fun z => nI_pos hN z) (nI_clamp hN) hb (by omega) (by omega) hd (fun q cA H1 k1 k2 k3 k4 => ?_)
  have e1 : cA = ca 2 := arr_ca 2 rfl c6 (k1.2 (tysOf ca).length (cA, .object "ForkInn$Sheet") (by rw [List.getElem?_append_right (Nat.le_refl _), Nat.sub_self]; rfl)).2
  subst e1
  exact kk q A p l e R s m args below meth c Q C I F ls H1 locs ⟨k2, k3, k4⟩ hl
/-- a class can be made, its fields then are fs -/
def MkC (ci : Nat) (C : String) (N : Nat) (fs : List Value) : Prop := ∃ (T : u_T) (ty : Nat → FieldType), vwCl[ci]? = some (C, T, N) ∧ (∀ w ∈ u_ws C T N, w ∈ gT) ∧ (∀ k, k < N → parseFieldDescriptor (T k).2.2.1 = some (ty k)) ∧ Cond.instantiable C N ∈ gT ∧ Cond.initialized C ∈ gT ∧ ∀ j, j < N → defaultValue (ty j) = vp_V fs j
theorem b_new {ci N idx : Nat} {C0 : String} {fs : List Value} (hM : MkC ci C0 N fs) (hd : decode cc pc = .ok (.new idx, 3)) (hcl : Cond.classLink own idx C0 ∈ gT) (hc : cells + 1 ≤ mc) (hs : slots + N ≤ ms) (kk : ∀ q : Nat, Bd D ca ini own cc nL fr mc ms E (pc + 3) lv (.ref q :: st) (ws ++ [(q, .inr (ci, fs))]) (cells + 1) (slots + N)) : Bd D ca ini own cc nL fr mc ms E pc lv st ws cells slots := by
  intro A p l e R s m args below meth c Q C I F ls H locs hw hl
  obtain ⟨c1, c2, c3, c4, c5, c6, c7, c8, ⟨c9, c10⟩, c11, c12⟩ := id C
  obtain ⟨T, ty, m1, m2, m3, m4, m5, m6⟩ := hM
  exact va_new (ci := ci) (fs := fs) c1 c2 c5 m2 ty m3 c4 (c5 _ hcl) (c5 _ m4) (c5 _ m5) c6 hw.1 hw.2.1 hw.2.2 c7 m1 m6 (by omega) (by omega) hd (fun q H1 k1 k2 k3 => kk q A p l e R s m args below meth c Q C I F ls H1 locs ⟨k1, k2, k3⟩ hl)
def FPF (own : String) (ci k : Nat) (ty : FieldType) : Prop := ∃ (C : String) (T : u_T) (N : Nat) (ty0 : Nat → FieldType), vwCl[ci]? = some (C, T, N) ∧ (T k).2.2.2 = true ∧ parseFieldDescriptor (T k).2.2.1 = some ty ∧ (∀ k, k < N → parseFieldDescriptor (T k).2.2.1 = some (ty0 k)) ∧ (∀ a, a < N → ∀ b, b < N → a ≠ b → (T a).2.1 ≠ (T b).2.1) ∧ (T k).1 = own
theorem b_putF {idx a ci k x : Nat} {fs : List Value} {ty : FieldType} (q0 : Nat) (hi : ini = true) (hd : decode cc pc = .ok (.putfield idx, 3)) (hl0 : FL own idx ci k) (hp : FPF own ci k ty) (he : ws[q0]? = some (a, .inr (ci, fs))) (hn : narrow ty (.ref x) = .ref x) (hfit : fits ty (.ref x) = true) (hlen : k < fs.length) (kk : Bd D ca ini own cc nL fr mc ms E (pc + 3) lv st (ws.set q0 (a, .inr (ci, fs.set k (.ref x)))) cells slots) : Bd D ca ini own cc nL fr mc ms E pc lv (.ref x :: .ref a :: st) ws cells slots := by
  intro A p l e R s m args below meth c Q C I F ls H locs hw hl
  obtain ⟨c1, c2, c3, c4, c5, c6, c7, c8, ⟨c9, c10⟩, c11, c12⟩ := id C
  obtain ⟨C0, T, N, h1, h2, h3, h4⟩ := hl0
  obtain ⟨C1, T1, N1, ty0, p1, p2, p3, p4, p5, p6⟩ := hp
  cases Option.some.inj (h1.symm.trans p1)
  exact va_putF c1 c2 c5 h4 ty0 p4 p5 c4 c6 hw.1 hw.2.1 hw.2.2 q0 he h1 k h2 (c5 _ h3) (fun _ q => q) p2 (I hi) p6 (v := .ref x) p3 hn hfit hlen hd (fun H1 locs1 a1 a2 a3 => kk A p l e R s m args below meth c Q C I F ls H1 locs1 ⟨a1, a2, a3⟩ hl)
theorem b_put {idx a ci k : Nat} {v : Int32} {fs : List Value} {ty : FieldType} (q0 : Nat) (hd : decode cc pc = .ok (.putfield idx, 3)) (hl0 : FL own idx ci k) (hp : FP ci k ty) (he : ws[q0]? = some (a, .inr (ci, fs))) (hn : narrow ty (.int v) = .int v) (hfit : fits ty (.int v) = true) (hlen : k < fs.length) (kk : Bd D ca ini own cc nL fr mc ms E (pc + 3) lv st (ws.set q0 (a, .inr (ci, fs.set k (.int v)))) cells slots) : Bd D ca ini own cc nL fr mc ms E pc lv (.int v :: .ref a :: st) ws cells slots := by
  intro A p l e R s m args below meth c Q C I F ls H locs hw hl
  obtain ⟨c1, c2, c3, c4, c5, c6, c7, c8, ⟨c9, c10⟩, c11, c12⟩ := id C
  obtain ⟨C0, T, N, h1, h2, h3, h4⟩ := hl0
  obtain ⟨C1, T1, N1, ty0, p1, p2, p3, p4, p5⟩ := hp
  cases Option.some.inj (h1.symm.trans p1)
  exact va_put c1 c2 c5 h4 ty0 p4 p5 c4 c6 hw.1 hw.2.1 hw.2.2 q0 he h1 k h2 (c5 _ h3) (fun _ q => q) p2 (v := .int v) p3 hn hfit hlen hd (fun H1 locs1 a1 a2 a3 => kk A p l e R s m args below meth c Q C I F ls H1 locs1 ⟨a1, a2, a3⟩ hl)
theorem b_get {idx a ci k : Nat} {v : Value} {fs : List Value} (q0 : Nat) (hd : decode cc pc = .ok (.getfield idx, 3)) (hl0 : FL own idx ci k) (he : ws[q0]? = some (a, .inr (ci, fs))) (hv : fs[k]? = some v) (kk : Bd D ca ini own cc nL fr mc ms E (pc + 3) lv (v :: st) ws cells slots) : Bd D ca ini own cc nL fr mc ms E pc lv (.ref a :: st) ws cells slots := by
  intro A p l e R s m args below meth c Q C I F ls H locs hw hl
  obtain ⟨c1, c2, c3, c4, c5, c6, c7, c8, ⟨c9, c10⟩, c11, c12⟩ := id C
  obtain ⟨C0, T, N, h1, h2, h3, h4⟩ := hl0
  exact va_get c1 c2 c5 h4 c4 c6 hw.1 q0 he h1 k h2 (c5 _ h3) (fun _ q => q) hv hd (kk A p l e R s m args below meth c Q C I F ls H locs hw hl)
theorem b_iast {a n j : Nat} {f : Nat → Int32} {x i : Int32} (q0 : Nat) (hd : decode cc pc = .ok (.iastore, 1)) (he : ws[q0]? = some (a, .inl (ca 0, n, .inl f))) (hi : i = nI j) (hj : j < n) (hn : n < 2 ^ 31) (kk : Bd D ca ini own cc nL fr mc ms E (pc + 1) lv st (ws.set q0 (a, .inl (ca 0, n, .inl (upd f j x)))) cells slots) : Bd D ca ini own cc nL fr mc ms E pc lv (.int x :: .int i :: .ref a :: st) ws cells slots := by
  intro A p l e R s m args below meth c Q C I F ls H locs hw hl
  obtain ⟨c1, c2, c3, c4, c5, c6, c7, c8, ⟨c9, c10⟩, c11, c12⟩ := id C
  subst hi
  have hcl : (nI j).toNatClampNeg = j := nI_clamp (by omega)
  refine va_iast c1 c2 c6 hw.1 hw.2.1 hw.2.2 q0 0 he rfl (fun z => ?_) hd (fun H1 locs1 a1 a2 a3 => ?_)
  · rcases z with z | z
    · exact nI_pos (by omega) z
    · rw [hcl] at z; omega
  · rw [hcl] at a1 a2
    exact kk A p l e R s m args below meth c Q C I F ls H1 locs1 ⟨a1, a2, a3⟩ hl
theorem b_astq {a n j v ci : Nat} {vs : List Value} {r : vw_C} {f : Nat → Option Nat} {i : Int32} (q0 qk : Nat) (hd : decode cc pc = .ok (.aastore, 1)) (he : ws[q0]? = some (a, .inl (ca 2, n, .inr (.inr (.inr (.inr f)))))) (hv : ws[qk]? = some (v, .inr (ci, vs))) (hc : vwCl[ci]? = some r) (hr : r.1 = "ForkInn$Sheet") (hi : i = nI j) (hj : j < n) (hn : n < 2 ^ 31) (kk : Bd D ca ini own cc nL fr mc ms E (pc + 1) lv st (ws.set q0 (a, .inl (ca 2, n, .inr (.inr (.inr (.inr (va_up f j (some v)))))))) cells slots) : Bd D ca ini own cc nL fr mc ms E pc lv (.ref v :: .int i :: .ref a :: st) ws cells slots := by
  intro A p l e R s m args below meth c Q C I F ls H locs hw hl
  obtain ⟨c1, c2, c3, c4, c5, c6, c7, c8, ⟨c9, c10⟩, c11, c12⟩ := id C
  subst hi
  have hcl : (nI j).toNatClampNeg = j := nI_clamp (by omega)
  refine va_astq c1 c2 c6 hw.1 hw.2.1 hw.2.2 q0 2 qk ci he (by rw [hr]; rfl) hv hc (fun z => ?_) hd (fun H1 locs1 a1 a2 a3 => ?_)
  · rcases z with z | z
    · exact nI_pos (by omega) z
    · rw [hcl] at z; omega
  · rw [hcl] at a1 a2
    exact kk A p l e R s m args below meth c Q C I F ls H1 locs1 ⟨a1, a2, a3⟩ hl
end BD
/-! a constructor's contract -/
abbrev rmC (fr mc ms : Nat) : Room := { frames := fr, cells := mc, slots := ms, locals := 60 * fr }
def MkP (D : va_G) (ca : Nat → ClassId) (a : Nat) (x : va_E) (sz : Nat) : Array Value → State → Prop := va_Pc [.ref a] (fun U => U.heap.size = sz ∧ va_P D vwCl [(a, x)] U.heap ∧ va_K D vwCl (tysOf ca) U ∧ va_D (fun _ => True) [(a, x)] ∧ va_AO "ForkInn$Sheet" U)
def MkQ (D : va_G) (a : Nat) (x : va_E) (sz : Nat) (w : (Nat → Nat) → va_W) : Array Value → State → Outcome → State → Prop := va_Qv (fun _ : Nat → Nat => True) (fun u U => va_P D vwCl (w u) U.heap ∧ va_D (va_A [(a, x)] sz) (w u)) (va_A [(a, x)] sz)
def Ctor (y : MethodName) (cc : ByteArray) (nL ci : Nat) (fs : List Value) (fr mc ms : Nat) (w : (Nat → ClassId) → Nat → (Nat → Nat) → va_W) : Prop :=
  ∀ (l : Launch) (D : va_G) (ca : Nat → ClassId) (a sz : Nat), Met l y (.code y cc nL none :: gT) (rmC fr mc ms) (MkP D ca a (.inr (ci, fs)) sz) (MkQ D a (.inr (ci, fs)) sz (w ca a)) mc ms (va_A [(a, .inr (ci, fs))] sz)
def EC (cc : ByteArray) (mc ms : Nat) (w : (Nat → Nat) → va_W) : Ms := fun pc _ st ws cells slots => st = [] ∧ decode cc pc = .ok (.return_, 1) ∧ cells ≤ mc ∧ slots ≤ ms ∧ ∃ u, ws = w u
theorem Ctor.of {y : MethodName} {cc : ByteArray} {nL ci : Nat} {fs : List Value} {fr mc ms : Nat} {w : (Nat → ClassId) → Nat → (Nat → Nat) → va_W} (hM : MI y cc nL none 0) (hy : y.name = "<init>") (hnL : 1 ≤ nL)
    (k : ∀ (D : va_G) (ca : Nat → ClassId) (a : Nat), Bd D ca true y.cls cc nL fr mc ms (EC cc mc ms (w ca a)) 0 [(0, .ref a)] [] [(a, .inr (ci, fs))] 0 0) : Ctor y cc nL ci fs fr mc ms w := by
  intro l D ca a sz
  refine Met.ofW (cc := cc) (maxL := nL) (ret := none) hM.2.2.1 rfl ?_
  intro p e s m args below meth c s₁ B hml hv
  obtain ⟨rfl, hsz, hP, hK, hD0, hAO⟩ := hv
  subst hsz
  have hts := atoms_spec (ws := .code y cc nL none :: gT) B.pre
  have hlocks := B.notSynchronized
  have hx := B.exec
  have hb := B.bytes
  have hr := B.returns
  have hin : meth.name = "<init>" := ((name_of_methodNamed B.named B.method).1).trans hy
  have hD := hD0.self (sz := s.heap.size)
  have Cxx : Mx D ca (va_A [(a, .inr (ci, fs))] s.heap.size) p (rmC fr mc ms) s m (([.ref a] : List Value).toArray) c y.cls cc nL fr mc ms := ⟨B.exec, B.bytes, hml, findClass_of_methodNamed B.named, fun w hw => hts w (List.mem_cons_of_mem _ hw), hK, fun q h => Or.inr h, hAO, ⟨Nat.le_refl _, Nat.le_refl _⟩, Nat.le_refl _, Nat.le_refl _⟩
  have hl := lv_entry ([.ref a]) (n := nL) hnL
  rw [lg_entry_eq]
  refine k D ca a _ p l e _ s m _ below meth c _ Cxx (fun _ => hin) ?_ _ s.heap [] ⟨hP, hD, va_S.rf⟩ hl
  rintro pc lv st ws cells slots ls H locs ⟨rfl, hd, h1, h2, u, rfl⟩ hw _
  refine W.widen (k := mc) (n := ms) h1 h2 ?_
  exact W.vret hx hb hr (fun t ht hW => ⟨⟨u, rfl, trivial, by rw [ht]; exact hw.1, hw.2.1⟩, hw.2.2.F ht⟩) hw.2.2.2.2 hd
theorem nd_of : ∀ l : List Nat, l.Nodup → va_nd l = true
  | [], _ => rfl
  | a :: l, h => by
    rw [List.nodup_cons] at h
    show (decide (a ∉ l) && va_nd l) = true
    rw [decide_eq_true h.1, nd_of l h.2]
    rfl
theorem rng_get (wr : va_W) (x : Nat × va_E) : (List.range wr.length).map (fun i => (wr ++ [x])[i]?) = wr.map some := by
  apply List.ext_getElem?
  intro i
  rw [List.getElem?_map, List.getElem?_map]
  by_cases h : i < wr.length
  · rw [List.getElem?_range h, List.getElem?_eq_getElem h]
    show some ((wr ++ [x])[i]?) = _
    rw [List.getElem?_append_left h, List.getElem?_eq_getElem h]
    rfl
  · rw [List.getElem?_eq_none (by rw [List.length_range]; omega), List.getElem?_eq_none (by omega)]
    rfl
section BC
variable {D : va_G} {ca : Nat → ClassId} {ini : Bool} {own : String} {cc : ByteArray} {nL fr mc ms : Nat} {E : Ms} {pc : Nat} {lv : List (Nat × Value)} {st : List Value} {ws : va_W} {cells slots : Nat}
theorem b_ctor {y : MethodName} {cc2 : ByteArray} {nL2 ci fr2 mc2 ms2 idx q : Nat} {fs : List Value} {w : (Nat → ClassId) → Nat → (Nat → Nat) → va_W} (wr : va_W) (hC : Ctor y cc2 nL2 ci fs fr2 mc2 ms2 w) (hM : MI y cc2 nL2 none 0) (hI : Cond.instanceMethod y ∈ gT) (hy : y.name = "<init>") (hL : Cond.methodLink own idx y ∈ gT) (hd : decode cc pc = .ok (.invokespecial idx, 3)) (hws : ws = wr ++ [(q, .inr (ci, fs))]) (hfr : fr2 + 1 ≤ fr) (hc : cells + mc2 ≤ mc) (hs : slots + ms2 ≤ ms) (hst : (st.map fun v => v.category).sum ≤ 8)
    (kk : ∀ u : Nat → Nat, Bd D ca ini own cc nL fr mc ms E (pc + 3) lv st (wr ++ w ca q u) (cells + mc2) (slots + ms2)) : Bd D ca ini own cc nL fr mc ms E pc lv (.ref q :: st) ws cells slots := by
  intro A p l e R s m args below meth c Q C I F ls H locs hw hl
  subst hws
  obtain ⟨c1, c2, c3, c4, c5, c6, c7, c8, ⟨c9, c10⟩, c11, c12⟩ := id C
  obtain ⟨m1, m2, m3, m4, m5, m6⟩ := hM
  have hlen : (wr ++ [(q, .inr (ci, fs))])[wr.length]? = some (q, (Sum.inr (ci, fs) : va_E)) := by
    rw [List.getElem?_append_right (Nat.le_refl _), Nat.sub_self]; rfl
  have hC1 : [wr.length].map (fun i => (wr ++ [(q, (Sum.inr (ci, fs) : va_E))])[i]?) = [(q, (Sum.inr (ci, fs) : va_E))].map some := by
    rw [List.map_cons, hlen]; rfl
  have hPc : va_P D vwCl [(q, .inr (ci, fs))] H := fun k x hx => by
    have : k = 0 := by have := (List.getElem?_eq_some_iff.mp hx).1; simp at this; omega
    subst this
    cases hx
    exact hw.1 _ _ hlen
  have hDc := hw.2.1.sub (ws' := [(q, .inr (ci, fs))]) [wr.length] rfl hC1
  have hFc := va_free (wc := [(q, .inr (ci, fs))]) hw.2.1 hw.2.2 c7 [wr.length] hC1
  have cb : CallB R s args own idx y cc2 nL2 none (.code y cc2 nL2 none :: gT) (rmC fr2 mc2 ms2) mc2 ms2 0 := by
    refine ⟨rfl, rfl, ?_, ?_, ?_, List.mem_cons_self, c5 _ m1, c5 _ m2, m4, ?_, c5 _ hL⟩
    · show fr2 + 1 ≤ R.frames
      omega
    · show 8 + (nL2 + 11) + 60 * fr2 ≤ R.locals
      omega
    · intro w hw a' U hW
      have hg : w ∈ gT := by
        rcases List.mem_cons.mp hw with rfl | q
        · exact m1
        · exact q
      exact word_at hW (gT_good w hg) (c5 w hg)
    · intro sig q
      rw [q] at m5
      exact (Option.some.inj m5).symm
  refine va_callv (va_runI (As := []) (b := q) (n := 0) (rest := st) ⟨c1, c2, c3, c4, c5⟩ (hC l D ca q H.size) ⟨cb, hy, c5 _ hI⟩ ⟨fun a U g mk q => ?_, fun U hU hW => ?_⟩ rfl rfl hl.1 rfl (lv_room hst) hd ⟨by omega, by omega⟩) hw.2.2 (fun q _ h => hFc q h) hFc (fun u t H1 locs1 ht hvm hp hB hz1 hk1 hS1 => ?_)
  · obtain ⟨q0, q1, qP, qK, qD, qA⟩ := q
    exact ⟨q0, q1, qP, va_K.moved (u := U) (U := U.calling g mk a) (Vm.Alike.refl U.vm) qK, qD, va_AO.moved (u := U) (U := U.calling g mk a) (Vm.Alike.refl U.vm) qA⟩
  · exact ⟨rfl, by rw [hU], by rw [hU]; exact hPc, va_K.moved hW.alike c6, hDc.weaken (fun _ _ _ _ => trivial), va_AO.moved hW.alike c8⟩
  · obtain ⟨hP1, hD1⟩ := hB
    rw [ht] at hP1
    obtain ⟨hP, hD⟩ := va_join (wr := wr) (w1 := w ca q u) hw.1 hw.2.1 [wr.length] (List.range wr.length) hC1 (rng_get wr _) (nd_of _ List.nodup_range) (fun i hi h => by
      have := List.mem_range.mp hi
      have := List.mem_singleton.mp h
      omega) hk1 hFc hP1 hD1
    exact kk u A p l e R s m args below meth c Q C I F ls H1 locs1 ⟨hP, hD, hS1⟩ hl
end BC

theorem ob_X0 : Cond.methodLink RX0 3 Lib.objectInit ∈ gT := gT_in (List.mem_of_getElem? (i := 79) (by decide +kernel)) (by decide +kernel)
theorem ii_X0 : Cond.instanceMethod yX0_init ∈ gT := gT_in (List.mem_of_getElem? (i := 77) (by decide +kernel)) (by decide +kernel)
theorem ob_X1 : Cond.methodLink RX1 1 Lib.objectInit ∈ gT := gT_in (List.mem_of_getElem? (i := 147) (by decide +kernel)) (by decide +kernel)
theorem ii_X1 : Cond.instanceMethod yX1_init ∈ gT := gT_in (List.mem_of_getElem? (i := 145) (by decide +kernel)) (by decide +kernel)
theorem ob_X2 : Cond.methodLink RX2 1 Lib.objectInit ∈ gT := gT_in (List.mem_of_getElem? (i := 119) (by decide +kernel)) (by decide +kernel)
theorem ii_X2 : Cond.instanceMethod yX2_init ∈ gT := gT_in (List.mem_of_getElem? (i := 117) (by decide +kernel)) (by decide +kernel)
theorem ob_X3 : Cond.methodLink RX3 3 Lib.objectInit ∈ gT := gT_in (List.mem_of_getElem? (i := 71) (by decide +kernel)) (by decide +kernel)
theorem ii_X3 : Cond.instanceMethod yX3_init ∈ gT := gT_in (List.mem_of_getElem? (i := 69) (by decide +kernel)) (by decide +kernel)
theorem ob_X4 : Cond.methodLink RX4 3 Lib.objectInit ∈ gT := gT_in (List.mem_of_getElem? (i := 716) (by decide +kernel)) (by decide +kernel)
theorem ii_X4 : Cond.instanceMethod yX4_init ∈ gT := gT_in (List.mem_of_getElem? (i := 714) (by decide +kernel)) (by decide +kernel)
theorem cl_L_7 : Cond.classLink RL 7 RX3 ∈ gT := gT_in (List.mem_of_getElem? (i := 66) (by decide +kernel)) (by decide +kernel)
theorem cl_L_10 : Cond.classLink RL 10 RX4 ∈ gT := gT_in (List.mem_of_getElem? (i := 711) (by decide +kernel)) (by decide +kernel)
theorem cl_X3_9 : Cond.classLink RX3 9 RX0 ∈ gT := gT_in (List.mem_of_getElem? (i := 74) (by decide +kernel)) (by decide +kernel)
theorem cl_X3_22 : Cond.classLink RX3 22 RX2 ∈ gT := gT_in (List.mem_of_getElem? (i := 114) (by decide +kernel)) (by decide +kernel)
theorem cl_X3_29 : Cond.classLink RX3 29 RX1 ∈ gT := gT_in (List.mem_of_getElem? (i := 141) (by decide +kernel)) (by decide +kernel)
theorem ac_I : Cond.arrayClass (newarray.typeOf .int) ∈ gT := gT_in (List.mem_of_getElem? (i := 113) (by decide +kernel)) (by decide +kernel)
theorem ac_B : Cond.arrayClass (newarray.typeOf .byte) ∈ gT := gT_in (List.mem_of_getElem? (i := 140) (by decide +kernel)) (by decide +kernel)
abbrev fsX0 : List Value := [.null, .null, .null, .null, .int 0, .int 0, .int 0, .int 0]
theorem mk_X0 : MkC 0 RX0 8 fsX0 := ⟨TX0, tyX0, rfl, iuX0, tyX0_ok, gT_in (List.mem_of_getElem? (i := 75) (by decide +kernel)) (by decide +kernel), mi_X0_init.2.1, fun j hj => by
  match j, hj with
  | 0, _ => rfl
  | 1, _ => rfl
  | 2, _ => rfl
  | 3, _ => rfl
  | 4, _ => rfl
  | 5, _ => rfl
  | 6, _ => rfl
  | 7, _ => rfl
  | j + 8, h => exact absurd h (by omega)⟩
abbrev fsX1 : List Value := [.null, .int 0, .int 0]
theorem mk_X1 : MkC 1 RX1 3 fsX1 := ⟨TX1, tyX1, rfl, iuX1, tyX1_ok, gT_in (List.mem_of_getElem? (i := 143) (by decide +kernel)) (by decide +kernel), mi_X1_init.2.1, fun j hj => by
  match j, hj with
  | 0, _ => rfl
  | 1, _ => rfl
  | 2, _ => rfl
  | j + 3, h => exact absurd h (by omega)⟩
abbrev fsX2 : List Value := [.null, .int 0, .int 0, .int 0, .int 0, .int 0]
theorem mk_X2 : MkC 2 RX2 6 fsX2 := ⟨TX2, tyX2, rfl, iuX2, tyX2_ok, gT_in (List.mem_of_getElem? (i := 115) (by decide +kernel)) (by decide +kernel), mi_X2_init.2.1, fun j hj => by
  match j, hj with
  | 0, _ => rfl
  | 1, _ => rfl
  | 2, _ => rfl
  | 3, _ => rfl
  | 4, _ => rfl
  | 5, _ => rfl
  | j + 6, h => exact absurd h (by omega)⟩
abbrev fsX3 : List Value := [.null, .null, .null, .null, .null, .null, .int 0]
theorem mk_X3 : MkC 3 RX3 7 fsX3 := ⟨TX3, tyX3, rfl, iuX3, tyX3_ok, gT_in (List.mem_of_getElem? (i := 67) (by decide +kernel)) (by decide +kernel), mi_X3_init.2.1, fun j hj => by
  match j, hj with
  | 0, _ => rfl
  | 1, _ => rfl
  | 2, _ => rfl
  | 3, _ => rfl
  | 4, _ => rfl
  | 5, _ => rfl
  | 6, _ => rfl
  | j + 7, h => exact absurd h (by omega)⟩
abbrev fsX4 : List Value := [.null, .null, .null, .int 0, .null, .null, .null, .null, .null, .int 0, .int 0, .int 0, .int 0, .int 0, .int 0]
theorem mk_X4 : MkC 4 RX4 15 fsX4 := ⟨TX4, tyX4, rfl, iuX4, tyX4_ok, gT_in (List.mem_of_getElem? (i := 712) (by decide +kernel)) (by decide +kernel), mi_X4_init.2.1, fun j hj => by
  match j, hj with
  | 0, _ => rfl
  | 1, _ => rfl
  | 2, _ => rfl
  | 3, _ => rfl
  | 4, _ => rfl
  | 5, _ => rfl
  | 6, _ => rfl
  | 7, _ => rfl
  | 8, _ => rfl
  | 9, _ => rfl
  | 10, _ => rfl
  | 11, _ => rfl
  | 12, _ => rfl
  | 13, _ => rfl
  | 14, _ => rfl
  | j + 15, h => exact absurd h (by omega)⟩
