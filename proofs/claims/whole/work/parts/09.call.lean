/-! CALLS -/
def MI (y : MethodName) (cc : ByteArray) (nL : Nat) (ret : Option FieldType) (n : Nat) : Prop :=
  Cond.code y cc nL ret ∈ gT ∧ Cond.initialized y.cls ∈ gT ∧ plainName y.cls = true ∧ (y.cls ≠ "java/lang/invoke/MethodHandle" ∧ y.cls ≠ "java/lang/invoke/VarHandle") ∧ (parseMethodDescriptor y.desc).map (fun d => d.parameters.length) = some n ∧ nL ≤ 30
def MV (y : MethodName) : Prop := Cond.instanceMethod y ∈ gT ∧ Cond.selects y.cls y y ∈ gT
theorem lv0_args {ad : Nat → Nat} : ∀ (as : List Value) (j i : Nat) (v : Value), (lv0 as)[i]? = some v → nul v = false → (j + i, cv ad v) ∈ lv_args j (as.map (cv ad))
  | [], j, i, v, h, _ => by simp [lv0] at h
  | a :: r, j, i, v, h, hn => by
    have ih := fun (j i : Nat) (v : Value) => lv0_args (ad := ad) r j i v
    rw [List.map_cons]
    show _ ∈ (j, cv ad a) :: lv_args (if (cv ad a).category = 2 then j + 2 else j + 1) (r.map (cv ad))
    cases i with
    | zero =>
      have e : a = v := by cases a <;> simpa [lv0] using h
      rw [e]
      exact List.mem_cons_self
    | succ i =>
      refine List.mem_cons_of_mem _ ?_
      rw [cv_cat]
      by_cases hc : a.category = 2
      · rw [if_pos hc]
        have e : lv0 (a :: r) = a :: .null :: lv0 r := by
          cases a <;> first | rfl | (exact absurd hc (by simp [Value.category]))
        rw [e] at h
        cases i with
        | zero =>
          have e2 : Value.null = v := by simpa using h
          rw [← e2] at hn; cases hn
        | succ i =>
          have h1 := ih (j + 2) i v (by simpa using h) hn
          rw [show j + (i + 1 + 1) = j + 2 + i by omega]
          exact h1
      · rw [if_neg hc]
        have e : lv0 (a :: r) = a :: lv0 r := by
          cases a <;> first | rfl | (exact absurd rfl hc)
        rw [e] at h
        have h1 := ih (j + 1) i v (by simpa using h) hn
        rw [show j + (i + 1) = j + 1 + i by omega]
        exact h1
theorem LVS.entry {ad : Nat → Nat} {nL : Nat} {as : List Value} (hl : (lg_sl (as.map (cv ad))).length ≤ nL) : LVS ad ((lg_sl (as.map (cv ad)) ++ List.replicate (nL - (lg_sl (as.map (cv ad))).length) Slot.unset).toArray) nL (lvE nL as) := by
  obtain ⟨h1, h2, h3⟩ := lv_entry (as.map (cv ad)) hl
  refine ⟨h1, h2, fun i v hi hn => ?_⟩
  unfold lvE at hi
  by_cases hb : i < (lv0 as).length
  · rw [List.getElem?_append_left hb] at hi
    have := lv0_args (ad := ad) as 0 i v hi hn
    rw [Nat.zero_add] at this
    exact h3 _ this
  · rw [List.getElem?_append_right (Nat.le_of_not_lt hb)] at hi
    have := List.mem_of_getElem? hi
    rw [(List.mem_replicate.mp this).2] at hn
    cases hn
abbrev rmD (d : Nat) : Room := { frames := d, cells := 0, slots := 0, locals := 60 * d }
def PcD (X : Sc) (ad : Nat → Nat) (D : va_G) (ca : Nat → ClassId) (A : Nat → Prop) (as : List Value) (h : Hp) : Array Value → State → Prop := va_Pc (as.map (cv ad)) (fun U => WP D ad ca h U.heap ∧ va_K D vwCl (tysOf ca) U ∧ Ro X ad A U U.heap ∧ ∀ q : Nat, U.heap.size ≤ q → A q)
def QcD (ad : Nat → Nat) (D : va_G) (ca : Nat → ClassId) (A : Nat → Prop) (r : Option Value) (h' : Hp) : Array Value → State → Outcome → State → Prop := fun _ st oc t => oc = .returned (r.map (cv ad)) ∧ WP D ad ca h' t.heap ∧ va_F A st t
theorem Ct.met {X : Sc} {y : MethodName} {cc : ByteArray} {nL : Nat} {ret : Option FieldType} {d n : Nat} {as : List Value} {h : Hp} {r : Option Value} {h' : Hp} (hC : Ct X y cc nL ret d as h r h') (hM : MI y cc nL ret n) {ad : Nat → Nat} (hl : (lg_sl (as.map (cv ad))).length ≤ nL) (l : Launch) (D : va_G) (ca : Nat → ClassId) {A : Nat → Prop} (hap : apD A ad) :
    Met l y (.code y cc nL ret :: gT) (rmD d) (PcD X ad D ca A as h) (QcD ad D ca A r h') 0 0 A := by
  refine Met.ofW (cc := cc) (maxL := nL) (ret := ret) hM.2.2.1 rfl ?_
  intro p e s m args below meth c s₁ B hml hv
  obtain ⟨rfl, hP, hK, hRo, hA⟩ := hv
  have hts := atoms_spec (ws := .code y cc nL ret :: gT) B.pre
  have hlocks := B.notSynchronized
  have hx := B.exec
  have hb := B.bytes
  have hr := B.returns
  have Cxx : Cx X ad D ca A p (rmD d) s m ((as.map (cv ad)).toArray) c 0 0 y.cls cc nL d := ⟨B.exec, B.bytes, hml, findClass_of_methodNamed B.named, fun w hw => hts w (List.mem_cons_of_mem _ hw), hK, hRo, hap, hA, ⟨Nat.le_refl _, Nat.le_refl _⟩, Nat.zero_le _, Nat.zero_le _⟩
  rw [lg_entry_eq]
  refine hC.2 ad D ca A p l e (rmD d) s m _ below meth c 0 0 (MQ below (QcD ad D ca A r h') ((as.map (cv ad)).toArray) s 0 0 A) Cxx ?_ _ s.heap [] ⟨hP, va_S.rf⟩ (LVS.entry hl)
  intro pc' ls H locs hd hw
  have hq : ∀ t : State, t.heap = H → s.WarmedH t.vm → QcD ad D ca A r h' ((as.map (cv ad)).toArray) s (.returned (r.map (cv ad))) t := fun t ht _ => ⟨rfl, by rw [ht]; exact hw.1, hw.2.F ht⟩
  have hok := hC.1
  match ret, r, hok, hq, hd, hr with
  | none, none, _, hq, hd, hr => exact W.vret hx hb hr hq hw.2.2.2 hd
  | some ty, some (.int v), hok, hq, hd, hr => exact W.zret hx hb hr hok hq hw.2.2.2 hd
  | some .long, some (.long v), _, hq, hd, hr => exact W.lret hx hb hr hq hw.2.2.2 hd
  | some (.object nm), some (.ref a), _, hq, hd, hr => exact W.aret hx hb hr (Or.inl ⟨nm, rfl⟩) (Or.inr ⟨ad a, rfl⟩) hq hw.2.2.2 hd
theorem PcD.blind {X : Sc} {ad : Nat → Nat} {D : va_G} {ca : Nat → ClassId} {A : Nat → Prop} {as : List Value} {h : Hp} : FrameBlind (PcD X ad D ca A as h) := by
  intro a U g mk q
  obtain ⟨q0, qP, qK, qR, qA⟩ := q
  exact ⟨q0, qP, va_K.moved (u := U) (U := U.calling g mk a) (Vm.Alike.refl U.vm) qK, qR.call g mk a, qA⟩
section CALL
variable {X : Sc} {own : String} {cc : ByteArray} {nL d pc : Nat} {lv st : List Value} {h h' : Hp} {r : Option Value}
theorem run_go {ad : Nat → Nat} {D : va_G} {ca : Nat → ClassId} {A : Nat → Prop} {p : Program} {l : Launch} {e : Env} {R : Room} {s : State} {m : MethodId} {args : Array Value} {below : List Frame} {meth : Method} {c : Code} {cells slots : Nat} {Q : State → Prop} {H : Heap} {locs : List Loc} {ls : Array Slot} {st0 rest : List Value} {a : Array Value} {v : Option Value} {h1 : Hp}
    (hr : va_Run p l e R s m args below meth c H locs cells slots 0 0 (F0 m pc ls st0) rest (QcD ad D ca A v h1 a) A) (hS : va_S A s.heap H locs)
    (kk : ∀ (H1 : Heap) (locs1 : List Loc), Wd D ad ca h1 A s.heap H1 locs1 → W p l e R s m args below meth c H1 locs1 cells slots Q (F0 m (pc + 3) ls ((v.map (cv ad)).toList ++ rest))) : W p l e R s m args below meth c H locs cells slots Q (F0 m pc ls st0) := by
  intro T hT X0
  obtain ⟨v1, st₀, t, T', L, h0, X', hL, e1, e2, ⟨hv, hp, hz, hk⟩, st⟩ := hr T hT X0
  cases hv
  rw [h0] at hz hk
  obtain ⟨t2, a1, b1⟩ := kk T'.heap (locs ++ L) ⟨by rw [e1]; exact hp, Nat.le_trans hS.1 (by rw [e1]; exact hz), fun q h1 h2 => by rw [e1, hk q (Nat.lt_of_lt_of_le h1 hS.1) h2]; exact hS.2.1 q h1 h2, fun q hq => by
      rcases List.mem_append.mp hq with h | h
      · exact hS.2.2 q h
      · exact hL q h⟩ T' rfl X'
  exact ⟨t2, st t2 a1, b1⟩
theorem cb_of {ad : Nat → Nat} {D : va_G} {ca : Nat → ClassId} {A : Nat → Prop} {p : Program} {R : Room} {s : State} {m : MethodId} {args : Array Value} {c : Code} {cells slots : Nat} {y : MethodName} {cc2 : ByteArray} {nL2 d2 n idx : Nat} {ret : Option FieldType} (C : Cx X ad D ca A p R s m args c cells slots own cc nL d) (hM : MI y cc2 nL2 ret n) (hL : Cond.methodLink own idx y ∈ gT) (hdd : d2 + 1 ≤ d) : CallB R s args own idx y cc2 nL2 ret (.code y cc2 nL2 ret :: gT) (rmD d2) 0 0 n := by
  obtain ⟨-, -, -, -, hts, -, -, -, -, ⟨hf, hlo⟩, -, -⟩ := C
  obtain ⟨m1, m2, m3, m4, m5, m6⟩ := hM
  refine ⟨rfl, rfl, Nat.le_trans hdd hf, ?_, ?_, List.mem_cons_self, hts _ m1, hts _ m2, m4, ?_, hts _ hL⟩
  · show 8 + (nL2 + 11) + 60 * d2 ≤ R.locals
    omega
  · intro w hw a' U hW
    have hg : w ∈ gT := by
      rcases List.mem_cons.mp hw with rfl | q
      · exact m1
      · exact q
    exact word_at hW (gT_good w hg) (hts w hg)
  · intro sig q
    rw [q] at m5
    exact (Option.some.inj m5).symm
theorem cat_sum (ad : Nat → Nat) (st : List Value) : ((st.map (cv ad)).map fun v => v.category).sum = (st.map fun v => v.category).sum := by
  rw [List.map_map]
  congr 1
  exact List.map_congr_left (fun v _ => cv_cat ad v)
theorem sl_len (ad : Nat → Nat) : ∀ as : List Value, (lg_sl (as.map (cv ad))).length = (lg_sl as).length
  | [] => rfl
  | v :: r => by
    show (lg_sl (cv ad v :: r.map (cv ad))).length = (lg_sl (v :: r)).length
    unfold lg_sl
    rw [List.flatMap_cons, List.flatMap_cons, List.length_append, List.length_append, cv_cat]
    have := sl_len ad r
    unfold lg_sl at this
    rw [this]
    by_cases hc : v.category = 2
    · rw [if_pos hc, if_pos hc]; rfl
    · rw [if_neg hc, if_neg hc]; rfl
theorem pre_go {ad : Nat → Nat} {D : va_G} {ca : Nat → ClassId} {A : Nat → Prop} {p : Program} {R : Room} {s : State} {m : MethodId} {args : Array Value} {c : Code} {cells slots : Nat} {H : Heap} {locs : List Loc} {as : List Value} (C : Cx X ad D ca A p R s m args c cells slots own cc nL d) (hw : Wd D ad ca h A s.heap H locs) : ∀ U : State, U.heap = H → s.WarmedH U.vm → PcD X ad D ca A as h ((as.map (cv ad)).toArray) U := by
  intro U hU hW
  obtain ⟨-, -, -, -, -, hK, hR, -, hA, -⟩ := C
  exact ⟨rfl, by rw [hU]; exact hw.1, va_K.moved hW.alike hK, hR.go hw.2 hW hU, fun q hq => hA q (Nat.le_trans hw.2.1 (by rw [← hU]; exact hq))⟩
theorem g_callV {y : MethodName} {cc2 : ByteArray} {nL2 d2 n idx i ci : Nat} {ret : Option FieldType} {as st0 : List Value} {fs : List Zf} {v : Option Value} {h1 : Hp} (hC : Ct X y cc2 nL2 ret d2 (.ref i :: as) h v h1) (hM : MI y cc2 nL2 ret n) (hV : MV y) (hL : Cond.methodLink own idx y ∈ gT) (hd : decode cc pc = .ok (.invokevirtual idx, 3)) (hs : shp[i]? = some (.inl (ci, fs))) (hc : (vwCl[ci]?).map (fun q => q.1) = some y.cls) (hdd : d2 + 1 ≤ d) (hn : as.length = n) (hst : st0 = as.reverse ++ .ref i :: st) (hsl : (lg_sl (.ref i :: as)).length ≤ nL2) (hrm : (st.map fun v => v.category).sum ≤ 8)
    (k : Go X own cc nL d (pc + 3) lv (v.toList ++ st) h1 r h') : Go X own cc nL d pc lv st0 h r h' := by
  intro ad D ca A p l e R s m args below meth c cells slots Q C F ls H locs hw hl
  subst hst
  have hMet := hC.met hM (ad := ad) (by rw [sl_len]; exact hsl) l D ca C.2.2.2.2.2.2.2.1
  obtain ⟨q, hq, hq2⟩ := Option.map_eq_some_iff.mp hc
  have hrecv := va_recv (q := q) C.2.2.2.2.2.1 hw.1 (ci := ci) hq (q0 := i) (wl_at hs)
  rw [hq2] at hrecv
  refine run_go (v := v) (h1 := h1) (rest := st.map (cv ad)) (a := (Value.ref (ad i) :: as.map (cv ad)).toArray) (va_runV (As := as.map (cv ad)) (b := ad i) (C := y.cls) (n := n) ⟨C.1, C.2.1, C.2.2.1, C.2.2.2.1, C.2.2.2.2.1⟩ hMet ⟨cb_of C hM hL hdd, C.2.2.2.2.1 _ hV.1, C.2.2.2.2.1 _ hV.2⟩ ⟨PcD.blind, hrecv, pre_go C hw⟩ rfl (by rw [List.length_map]; exact hn) hl.1 ?_ (lv_room (by rw [cat_sum]; exact hrm)) hd ⟨C.2.2.2.2.2.2.2.2.2.2.1, C.2.2.2.2.2.2.2.2.2.2.2⟩) hw.2 (fun H1 locs1 hw1 => ?_)
  · show ((as.reverse ++ .ref i :: st).map (cv ad)) = _
    rw [List.map_append, List.map_reverse]
    rfl
  · have k1 := k ad D ca A p l e R s m args below meth c cells slots Q C F ls H1 locs1 hw1 hl
    rw [List.map_append] at k1
    cases v <;> exact k1
theorem g_callS {y : MethodName} {cc2 : ByteArray} {nL2 d2 n idx : Nat} {ret : Option FieldType} {as st0 : List Value} {v : Option Value} {h1 : Hp} (hC : Ct X y cc2 nL2 ret d2 as h v h1) (hM : MI y cc2 nL2 ret n) (hV : Cond.static y ∈ gT) (hL : Cond.methodLink own idx y ∈ gT) (hd : decode cc pc = .ok (.invokestatic idx, 3)) (hdd : d2 + 1 ≤ d) (hn : as.length = n) (hst : st0 = as.reverse ++ st) (hsl : (lg_sl as).length ≤ nL2) (hrm : (st.map fun v => v.category).sum ≤ 8)
    (k : Go X own cc nL d (pc + 3) lv (v.toList ++ st) h1 r h') : Go X own cc nL d pc lv st0 h r h' := by
  intro ad D ca A p l e R s m args below meth c cells slots Q C F ls H locs hw hl
  subst hst
  have hMet := hC.met hM (ad := ad) (by rw [sl_len]; exact hsl) l D ca C.2.2.2.2.2.2.2.1
  refine run_go (v := v) (h1 := h1) (rest := st.map (cv ad)) (a := (as.map (cv ad)).toArray) (va_runS (As := as.map (cv ad)) (n := n) ⟨C.1, C.2.1, C.2.2.1, C.2.2.2.1, C.2.2.2.2.1⟩ hMet ⟨cb_of C hM hL hdd, C.2.2.2.2.1 _ hV⟩ ⟨PcD.blind, pre_go C hw⟩ rfl (by rw [List.length_map]; exact hn) hl.1 ?_ (lv_room (by rw [cat_sum]; exact hrm)) hd ⟨C.2.2.2.2.2.2.2.2.2.2.1, C.2.2.2.2.2.2.2.2.2.2.2⟩) hw.2 (fun H1 locs1 hw1 => ?_)
  · show ((as.reverse ++ st).map (cv ad)) = _
    rw [List.map_append, List.map_reverse]
  · have k1 := k ad D ca A p l e R s m args below meth c cells slots Q C F ls H1 locs1 hw1 hl
    rw [List.map_append] at k1
    cases v <;> exact k1
theorem Ct.heq {X : Sc} {y : MethodName} {cc : ByteArray} {nL : Nat} {ret : Option FieldType} {d : Nat} {as : List Value} {h : Hp} {r : Option Value} {h1 h2 : Hp} (hC : Ct X y cc nL ret d as h r h1) (e : heq h1 h2) : Ct X y cc nL ret d as h r h2 :=
  ⟨hC.1, fun ad D ca A p l en R s m args below meth c cells slots Q C F ls H locs hw hl => hC.2 ad D ca A p l en R s m args below meth c cells slots Q C (fun pc' ls2 H2 locs2 hd hw2 => F pc' ls2 H2 locs2 hd ⟨hw2.1.heq e, hw2.2⟩) ls H locs hw hl⟩
theorem Ct.up {X : Sc} {y : MethodName} {cc : ByteArray} {nL : Nat} {ret : Option FieldType} {d d2 : Nat} {as : List Value} {h : Hp} {r : Option Value} {h1 : Hp} (hC : Ct X y cc nL ret d as h r h1) (hd : d ≤ d2) : Ct X y cc nL ret d2 as h r h1 :=
  ⟨hC.1, fun ad D ca A p l en R s m args below meth c cells slots Q C F ls H locs hw hl => by
    obtain ⟨c1, c2, c3, c4, c5, c6, c7, c8, c9, ⟨c10, c11⟩, c12, c13⟩ := C
    exact hC.2 ad D ca A p l en R s m args below meth c cells slots Q ⟨c1, c2, c3, c4, c5, c6, c7, c8, c9, ⟨Nat.le_trans hd c10, by omega⟩, c12, c13⟩ F ls H locs hw hl⟩
/-- Math.max, Math.min -/
theorem g_max {idx : Nat} {x y : Int32} (hd : decode cc pc = .ok (.invokestatic idx, 3)) (hL : Cond.methodLink own idx Lib.Math.max.name ∈ gT) (h1 : Cond.static Lib.Math.max.name ∈ gT) (h2 : Cond.initialized "java/lang/Math" ∈ gT) (h3 : Cond.code Lib.Math.max.name Lib.Math.max.code 2 (some .int) ∈ gT) (hdd : 1 ≤ d) (hrm : (st.map fun v => v.category).sum ≤ 8)
    (k : Go X own cc nL d (pc + 3) lv (.int (if x < y then y else x) :: st) h r h') : Go X own cc nL d pc lv (.int y :: .int x :: st) h r h' := by
  intro ad D ca A p l e R s m args below meth c cells slots Q C F ls H locs hw hl
  have k1 := k ad D ca A p l e R s m args below meth c cells slots Q C F ls H locs hw hl
  obtain ⟨c1, c2, c3, c4, c5, c6, c7, c8, c9, ⟨c10, c11⟩, c12, c13⟩ := C
  exact va_mmax c1 c2 (c3.trans hl.1.symm) c4 (c5 _ hL) (c5 _ h1) (c5 _ h2) (c5 _ h3) (Nat.le_trans hdd c10) (by rw [cat_sum]; omega) c12 c13 hd k1
theorem g_min {idx : Nat} {x y : Int32} (hd : decode cc pc = .ok (.invokestatic idx, 3)) (hL : Cond.methodLink own idx Lib.Math.min.name ∈ gT) (h1 : Cond.static Lib.Math.min.name ∈ gT) (h2 : Cond.initialized "java/lang/Math" ∈ gT) (h3 : Cond.code Lib.Math.min.name Lib.Math.min.code 2 (some .int) ∈ gT) (hdd : 1 ≤ d) (hrm : (st.map fun v => v.category).sum ≤ 8)
    (k : Go X own cc nL d (pc + 3) lv (.int (if y < x then y else x) :: st) h r h') : Go X own cc nL d pc lv (.int y :: .int x :: st) h r h' := by
  intro ad D ca A p l e R s m args below meth c cells slots Q C F ls H locs hw hl
  have k1 := k ad D ca A p l e R s m args below meth c cells slots Q C F ls H locs hw hl
  obtain ⟨c1, c2, c3, c4, c5, c6, c7, c8, c9, ⟨c10, c11⟩, c12, c13⟩ := C
  exact va_mmin c1 c2 (c3.trans hl.1.symm) c4 (c5 _ hL) (c5 _ h1) (c5 _ h2) (c5 _ h3) (Nat.le_trans hdd c10) (by rw [cat_sum]; omega) c12 c13 hd k1
/-- so many places of a group come to another one (as they all were) -/
def cpy (h : Hp) (gs so gd dO n : Nat) : Hp := fun a k => if a = gd ∧ dO ≤ k ∧ k < dO + n then h gs (so + (k - dO)) else h a k
theorem cpy_fn (h : Hp) (g0 o0 g1 o1 sp dp n : Nat) : (fun j => cpy h g0 (o0 + sp) g1 (o1 + dp) n g1 (o1 + j)) = va_cpy (fun j => h g0 (o0 + j)) (fun j => h g1 (o1 + j)) sp dp n := by
  funext j
  unfold cpy va_cpy
  by_cases hc : dp ≤ j ∧ j < dp + n
  · rw [if_pos ⟨rfl, by omega, by omega⟩, if_pos hc]
    show h g0 (o0 + sp + (o1 + j - (o1 + dp))) = h g0 (o0 + (sp + (j - dp)))
    rw [show o0 + sp + (o1 + j - (o1 + dp)) = o0 + (sp + (j - dp)) by omega]
  · rw [if_neg (by omega), if_neg hc]
theorem cpy_out (h : Hp) {g0 o0 g1 o1 sp dp n n1 g2 k2 : Nat} (h5 : dp + n ≤ n1) (b : ¬ inP (occ (.inr (0, n1, g1, o1))) g2 k2) : cpy h g0 (o0 + sp) g1 (o1 + dp) n g2 k2 = h g2 k2 := by
  unfold cpy
  rw [if_neg]
  rintro ⟨q1, q2, q3⟩
  exact b ⟨(g1, o1, n1), by simp [occ], q1.symm, by show o1 ≤ k2; omega, by show k2 < o1 + n1; omega⟩
theorem g_copy {idx i0 i1 n0 n1 g0 o0 g1 o1 : Nat} {js jd jn : Int32} (sp dp n : Nat) (hd : decode cc pc = .ok (.invokestatic idx, 3)) (hs0 : shp[i0]? = some (.inr (0, n0, g0, o0))) (hs1 : shp[i1]? = some (.inr (0, n1, g1, o1))) (ejs : js = nI sp) (ejd : jd = nI dp) (ejn : jn = nI n) (h4 : sp + n ≤ n0) (h5 : dp + n ≤ n1)
    (hL : Cond.methodLink own idx arraycopyName ∈ gT) (w1 : Cond.native arraycopyName ∈ gT) (w2 : Cond.static arraycopyName ∈ gT) (w3 : Cond.initialized "java/lang/System" ∈ gT) (hdd : 1 ≤ d) (hrm : (st.map fun v => v.category).sum ≤ 8)
    (k : Go X own cc nL d (pc + 3) lv st (cpy h g0 (o0 + sp) g1 (o1 + dp) n) r h') : Go X own cc nL d pc lv (.int jn :: .int jd :: .ref i1 :: .int js :: .ref i0 :: st) h r h' := by
  intro ad D ca A p l e R s m args below meth c cells slots Q C F ls H locs hw hl
  subst ejs; subst ejd; subst ejn
  have b0 := shp_sm hs0
  have b1 := shp_sm hs1
  have e1 : (nI sp).toNatClampNeg = sp := nI_clamp (by omega)
  have e2 : (nI dp).toNatClampNeg = dp := nI_clamp (by omega)
  have e3 : (nI n).toNatClampNeg = n := nI_clamp (by omega)
  have hi0 : (wl ad ca h)[i0]? = some (ad i0, .inl (ca 0, n0, .inl (fun j => h g0 (o0 + j)))) := by rw [wl_at hs0, cE_arr (by decide)]
  have hi1 : (wl ad ca h)[i1]? = some (ad i1, .inl (ca 0, n1, .inl (fun j => h g1 (o1 + j)))) := by rw [wl_at hs1, cE_arr (by decide)]
  have C0 := C
  obtain ⟨c1, c2, c3, c4, c5, c6, c7, c8, c9, ⟨c10, c11⟩, c12, c13⟩ := C
  have hnw : nativeFrameWords "java/lang/System" "arraycopy" 5 + 11 ≤ 50 := by decide +kernel
  refine va_copyi c1 c2 (c3.trans hl.1.symm) c4 (c5 _ hL) (c5 _ w1) (c5 _ w2) (c5 _ w3) c6 hw.1 (c8.D ca h) hw.2 i0 i1 0 0 hi0 hi1 rfl rfl rfl (nI_pos (by omega)) (nI_pos (by omega)) (nI_pos (by omega)) (by rw [e1, e3]; exact h4) (by rw [e2, e3]; exact h5) (fun i _ => rfl) (Nat.le_trans hdd c10) (by rw [cat_sum]; omega) hd (fun H1 locs1 a1 a2 a3 => ?_)
  rw [e1, e2, e3] at a1
  refine k ad D ca A p l e R s m args below meth c cells slots Q C0 F ls H1 locs1 ⟨WP.upd hs1 a1 (fun a => ?_) (fun g2 k2 b => ?_), a3⟩ hl
  · rw [cE_arr (by decide)]
    rw [cpy_fn]
    exact a
  · exact cpy_out h h5 b
end CALL
