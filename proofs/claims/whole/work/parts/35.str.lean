/-! TEXTS -/
section STR
variable {X : Sc} {own : String} {cc : ByteArray} {nL d pc : Nat} {lv st : List Value} {h h' : Hp} {r : Option Value}
theorem g_csZ {idx : Nat} (hd : decode cc pc = .ok (.getstatic idx, 3)) (hk : Cond.fieldLink own idx "java/lang/String" "COMPACT_STRINGS" "Z" ∈ gT) (kk : Go X own cc nL d (pc + 3) lv (.int 1 :: st) h r h') : Go X own cc nL d pc lv st h r h' := by
  intro ad D ca A p l e R s m args below meth c cells slots Q C F ls H locs hw hl
  obtain ⟨a1, a2, a3, a4, a5, t1, t2, z1, z2⟩ := C.2.2.2.2.2.2.1
  exact va_gets C.1 C.2.1 z1 hw.2 C.2.2.2.1 (C.2.2.2.2.1 _ hk) (fun _ q => q) hd (kk ad D ca A p l e R s m args below meth c cells slots Q C F ls H locs hw hl)
theorem g_sval {idx i : Nat} (hi : i < 13) (hd : decode cc pc = .ok (.getfield idx, 3)) (hk : Cond.fieldLink own idx "java/lang/String" "value" "[B" ∈ gT) (kk : Go X own cc nL d (pc + 3) lv (.ref (130 + i) :: st) h r h') : Go X own cc nL d pc lv (.ref (110 + i) :: st) h r h' := by
  intro ad D ca A p l e R s m args below meth c cells slots Q C F ls H locs hw hl
  obtain ⟨a1, a2, a3, a4, a5, t1, t2, z1, z2⟩ := C.2.2.2.2.2.2.1
  exact vk_getf C.1 C.2.1 (t2.1 i hi).2.2.1 hw.2 C.2.2.2.1 (C.2.2.2.2.1 _ hk) (fun _ q => q) hd (kk ad D ca A p l e R s m args below meth c cells slots Q C F ls H locs hw hl)
theorem g_scod {idx i : Nat} (hi : i < 13) (hd : decode cc pc = .ok (.getfield idx, 3)) (hk : Cond.fieldLink own idx "java/lang/String" "coder" "B" ∈ gT) (kk : Go X own cc nL d (pc + 3) lv (.int 0 :: st) h r h') : Go X own cc nL d pc lv (.ref (110 + i) :: st) h r h' := by
  intro ad D ca A p l e R s m args below meth c cells slots Q C F ls H locs hw hl
  obtain ⟨a1, a2, a3, a4, a5, t1, t2, z1, z2⟩ := C.2.2.2.2.2.2.1
  exact vk_getf C.1 C.2.1 (t2.1 i hi).2.1 hw.2 C.2.2.2.1 (C.2.2.2.2.1 _ hk) (fun _ q => q) hd (kk ad D ca A p l e R s m args below meth c cells slots Q C F ls H locs hw hl)
theorem g_stl {i : Nat} (hi : i < 13) (hd : decode cc pc = .ok (.arraylength, 1)) (kk : Go X own cc nL d (pc + 1) lv (.int (nI (txLen.getD i 0)) :: st) h r h') : Go X own cc nL d pc lv (.ref (130 + i) :: st) h r h' := by
  intro ad D ca A p l e R s m args below meth c cells slots Q C F ls H locs hw hl
  obtain ⟨a1, a2, a3, a4, a5, t1, t2, z1, z2⟩ := C.2.2.2.2.2.2.1
  exact va_tlen C.1 C.2.1 (t2.1 i hi).2.2.2 hw.2 (v := nI (txLen.getD i 0)) rfl hd (kk ad D ca A p l e R s m args below meth c cells slots Q C F ls H locs hw hl)
theorem tx_small : ∀ i, i < 13 → txLen.getD i 0 < 7 := by decide
theorem g_stb {i : Nat} {j : Int32} (q : Nat) (hi : i < 13) (hd : decode cc pc = .ok (.baload, 1)) (hj : j = nI q) (hq : q < txLen.getD i 0) (kk : Go X own cc nL d (pc + 1) lv (.int ((txByt.getD i []).getD q 0) :: st) h r h') : Go X own cc nL d pc lv (.int j :: .ref (130 + i) :: st) h r h' := by
  subst hj
  intro ad D ca A p l e R s m args below meth c cells slots Q C F ls H locs hw hl
  obtain ⟨a1, a2, a3, a4, a5, t1, t2, z1, z2⟩ := C.2.2.2.2.2.2.1
  have hs := tx_small i hi
  exact va_tb C.1 C.2.1 (t2.1 i hi).2.2.2 hw.2 (vp_in_nI hq (by omega)) (by rw [nI_clamp (by omega)]; rfl) hd (kk ad D ca A p l e R s m args below meth c cells slots Q C F ls H locs hw hl)
theorem g_callT {y : MethodName} {cc2 : ByteArray} {nL2 d2 n idx i : Nat} {ret : Option FieldType} {as st0 : List Value} {v : Option Value} {h1 : Hp} (hi : i < 13) (hC : Ct X y cc2 nL2 ret d2 (.ref (110 + i) :: as) h v h1) (hM : MI y cc2 nL2 ret n) (hV : MV y) (hL : Cond.methodLink own idx y ∈ gT) (hd : decode cc pc = .ok (.invokevirtual idx, 3)) (hc : y.cls = "java/lang/String") (hdd : d2 + 1 ≤ d) (hn : as.length = n) (hst : st0 = as.reverse ++ .ref (110 + i) :: st) (hsl : (lg_sl (.ref (110 + i) :: as)).length ≤ nL2) (hrm : (st.map fun v => v.category).sum ≤ 8)
    (k : Go X own cc nL d (pc + 3) lv (v.toList ++ st) h1 r h') : Go X own cc nL d pc lv st0 h r h' := by
  intro ad D ca A p l e R s m args below meth c cells slots Q C F ls H locs hw hl
  subst hst
  have hMet := hC.met hM (ad := ad) (by rw [sl_len]; exact hsl) l D ca C.2.2.2.2.2.2.2.1
  have hrecv : ∃ cell : Cell, H[ad (110 + i)]? = some cell ∧ cell.vm.isStatics = false ∧ s.vm.findClass y.cls = some cell.cls := by
    obtain ⟨a1, a2, a3, a4, a5, t1, t2, z1, z2⟩ := C.2.2.2.2.2.2.1
    rw [hc]
    exact vk_recv (adK := fun i => ad (110 + i)) (i := i) t2 hi hw.2
  refine run_go (v := v) (h1 := h1) (rest := st.map (cv ad)) (a := (Value.ref (ad (110 + i)) :: as.map (cv ad)).toArray) (va_runV (As := as.map (cv ad)) (b := ad (110 + i)) (C := y.cls) (n := n) ⟨C.1, C.2.1, C.2.2.1, C.2.2.2.1, C.2.2.2.2.1⟩ hMet ⟨cb_of C hM hL hdd, C.2.2.2.2.1 _ hV.1, C.2.2.2.2.1 _ hV.2⟩ ⟨PcD.blind, hrecv, pre_go C hw⟩ rfl (by rw [List.length_map]; exact hn) hl.1 ?_ (lv_room (by rw [cat_sum]; exact hrm)) hd ⟨C.2.2.2.2.2.2.2.2.2.2.1, C.2.2.2.2.2.2.2.2.2.2.2⟩) hw.2 (fun H1 locs1 hw1 => ?_)
  · show ((as.reverse ++ .ref (110 + i) :: st).map (cv ad)) = _
    rw [List.map_append, List.map_reverse]
    rfl
  · have k1 := k ad D ca A p l e R s m args below meth c cells slots Q C F ls H1 locs1 hw1 hl
    rw [List.map_append] at k1
    cases v <;> exact k1
end STR
/-! one more cell, that is only handed on -/
def adF (ad : Nat → Nat) (t : Nat) : Nat → Nat := fun i => if i = 200 then t else ad i
theorem adF_n (ad : Nat → Nat) (t : Nat) {i : Nat} (h : i ≠ 200) : adF ad t i = ad i := if_neg h
def shpRf : Bool := shp.all fun s => match s with
  | .inl (_, fs) => fs.all fun f => match f with
    | .inl j => Nat.ble j 36
    | _ => true
  | _ => true
theorem shpRf_ok : shpRf = true := by decide +kernel
theorem fV_adF (ad : Nat → Nat) (t : Nat) (h : Hp) : ∀ (fs : List Zf), (fs.all fun f => match f with | .inl j => Nat.ble j 36 | _ => true) = true → fs.map (fV (adF ad t) h) = fs.map (fV ad h)
  | [], _ => rfl
  | .inl j :: r, q => by
    rw [List.all_cons, Bool.and_eq_true] at q
    have q1 : j ≤ 36 := Nat.le_of_ble_eq_true q.1
    rw [List.map_cons, List.map_cons, fV_adF ad t h r q.2]
    show Value.ref (adF ad t j) :: _ = Value.ref (ad j) :: _
    rw [adF_n ad t (by omega)]
  | .inr z :: r, q => by
    rw [List.all_cons, Bool.and_eq_true] at q
    rw [List.map_cons, List.map_cons, fV_adF ad t h r q.2]
    rfl
theorem wl_adF (ad : Nat → Nat) (t : Nat) (ca : Nat → ClassId) (h : Hp) : wl (adF ad t) ca h = wl ad ca h := by
  apply List.ext_getElem?
  intro i
  unfold wl
  rw [List.getElem?_mapIdx, List.getElem?_mapIdx]
  cases hs : shp[i]? with
  | none => rfl
  | some s =>
    have hi := shp_lt hs
    have hq := List.all_eq_true.mp shpRf_ok s (List.mem_of_getElem? hs)
    show some (adF ad t i, cE (adF ad t) ca h s) = some (ad i, cE ad ca h s)
    rw [adF_n ad t (by omega)]
    congr 2
    match s, hq with
    | .inl (ci, fs), hq =>
      show (Sum.inr (ci, fs.map (fV (adF ad t) h)) : va_E) = Sum.inr (ci, fs.map (fV ad h))
      rw [fV_adF ad t h fs hq]
    | .inr (z, n, g, o), hq =>
      by_cases hz : z = 2
      · have e : (fun j => some (adF ad t (19 + 2 * j))) = (fun j => some (ad (19 + 2 * j))) := by
          funext j
          rw [adF_n ad t (by omega)]
        simp [cE, hz, e]
      · simp [cE, hz]
theorem WP_adF {D : va_G} {ad : Nat → Nat} {t : Nat} {ca : Nat → ClassId} {h : Hp} {H : Heap} : WP D (adF ad t) ca h H ↔ WP D ad ca h H := by
  unfold WP
  rw [wl_adF]
theorem Ro_adF {X : Sc} {ad : Nat → Nat} {t : Nat} {A : Nat → Prop} {U : State} {H : Heap} (q : Ro X ad A U H) : Ro X (adF ad t) A U H := by
  obtain ⟨a1, a2, a3, a4, a5, t1, t2, z1, z2⟩ := q
  have e : ∀ i, i < 50 → adF ad t (110 + i) = ad (110 + i) := fun i hi => adF_n ad t (by omega)
  refine ⟨a1, a2, a3, a4, a5, fun i hi => ?_, ⟨fun i hi => ?_, fun i j hi hj q => ?_⟩, z1, z2⟩
  · rw [e i (by omega)]; exact t1 i hi
  · show va_O _ (adF ad t (110 + i)) A U H ∧ va_OF _ _ _ _ (adF ad t (110 + i)) A U H ∧ va_OF _ _ _ (.ref (adF ad t (130 + i))) (adF ad t (110 + i)) A U H ∧ va_T _ (adF ad t (130 + i)) _ _ A U H
    rw [e i (by omega), adF_n ad t (i := 130 + i) (by omega)]
    exact t2.1 i hi
  · have q2 : adF ad t (110 + i) = adF ad t (110 + j) := q
    rw [e i (by omega), e j (by omega)] at q2
    exact t2.2 i j hi hj q2
theorem Cx_adF {X : Sc} {ad : Nat → Nat} {t : Nat} {D : va_G} {ca : Nat → ClassId} {A : Nat → Prop} {p : Program} {R : Room} {s : State} {m : MethodId} {args : Array Value} {c : Code} {cells slots : Nat} {own : String} {cc : ByteArray} {nL d : Nat} (C : Cx X ad D ca A p R s m args c cells slots own cc nL d) : Cx X (adF ad t) D ca A p R s m args c cells slots own cc nL d := by
  obtain ⟨c1, c2, c3, c4, c5, c6, c7, c8, c9, c10⟩ := C
  refine ⟨c1, c2, c3, c4, c5, c6, Ro_adF c7, ⟨fun i j hi hj q => ?_, fun i hi => ?_⟩, c9, c10⟩
  · rw [adF_n ad t (by omega), adF_n ad t (by omega)] at q
    exact c8.1 i j hi hj q
  · rw [adF_n ad t (by omega)]
    exact c8.2 i hi

set_option maxRecDepth 100000 in
set_option maxHeartbeats 4000000 in
theorem c_J3_checkIndex_n {X : Sc} {h : Hp} {i n : Nat} (hi : i < n) (hn : n < 2 ^ 31) : Ct X yJ3_checkIndex_8e157 cJ3_checkIndex_8e157 3 (some .int) 0 [.int (nI i), .int (nI n), .null] h (some (.int (nI i))) h := by
  refine ⟨rfl, ?_⟩
  refine g_iload_n dJ3_checkIndex_8e157_0 rfl ?_
  refine g_if_lt 9 dJ3_checkIndex_8e157_1 (by decide) (fun c1 => ?_) (fun c1 => ?_)
  · exact absurd c1 (nI_pos (by omega))
  · refine g_iload_n dJ3_checkIndex_8e157_4 rfl ?_
    refine g_iload_n dJ3_checkIndex_8e157_5 rfl ?_
    refine g_icmp_lt 16 dJ3_checkIndex_8e157_6 (by decide) (fun c6 => ?_) (fun c6 => ?_)
    · refine g_iload_n dJ3_checkIndex_8e157_16 rfl ?_
      exact g_ireturn dJ3_checkIndex_8e157_17 rfl rfl
    · exact absurd (nI_lt hi hn) c6

set_option maxRecDepth 100000 in
set_option maxHeartbeats 4000000 in
theorem c_J3_checkIndex_r {X : Sc} {h : Hp} {i n : Nat} (hi : i < n) (hn : n < 2 ^ 31) : Ct X yJ3_checkIndex_8e157 cJ3_checkIndex_8e157 3 (some .int) 0 [.int (nI i), .int (nI n), (.ref 200)] h (some (.int (nI i))) h := by
  refine ⟨rfl, ?_⟩
  refine g_iload_n dJ3_checkIndex_8e157_0 rfl ?_
  refine g_if_lt 9 dJ3_checkIndex_8e157_1 (by decide) (fun c1 => ?_) (fun c1 => ?_)
  · exact absurd c1 (nI_pos (by omega))
  · refine g_iload_n dJ3_checkIndex_8e157_4 rfl ?_
    refine g_iload_n dJ3_checkIndex_8e157_5 rfl ?_
    refine g_icmp_lt 16 dJ3_checkIndex_8e157_6 (by decide) (fun c6 => ?_) (fun c6 => ?_)
    · refine g_iload_n dJ3_checkIndex_8e157_16 rfl ?_
      exact g_ireturn dJ3_checkIndex_8e157_17 rfl rfl
    · exact absurd (nI_lt hi hn) c6

set_option maxRecDepth 100000 in
set_option maxHeartbeats 4000000 in
theorem c_J0_checkIndex {X : Sc} {h : Hp} {i n : Nat} (hi : i < n) (hn : n < 2 ^ 31) : Ct X yJ0_checkIndex_df160 cJ0_checkIndex_df160 2 none 1 [.int (nI i), .int (nI n)] h none h := by
  refine ⟨trivial, ?_⟩
  refine g_iload_n dJ0_checkIndex_df160_0 rfl ?_
  refine g_iload_n dJ0_checkIndex_df160_1 rfl ?_
  have kn : Go X RJ0 cJ0_checkIndex_df160 2 1 5 [.int (nI i), .int (nI n)] [.null, .int (nI n), .int (nI i)] h none h := by
    refine g_callS3i (c_J3_checkIndex_n hi hn) mi_J3_checkIndex_8e157 ms_J3_checkIndex_8e157 ml_J0_1059 dJ0_checkIndex_df160_5 (by decide) (Nat.le_of_ble_eq_true rfl) (Nat.le_of_ble_eq_true rfl) ?_
    refine g_pop dJ0_checkIndex_df160_8 rfl ?_
    exact g_return dJ0_checkIndex_df160_9 rfl rfl
  have kr : Go X RJ0 cJ0_checkIndex_df160 2 1 5 [.int (nI i), .int (nI n)] [.ref 200, .int (nI n), .int (nI i)] h none h := by
    refine g_callS3i (c_J3_checkIndex_r hi hn) mi_J3_checkIndex_8e157 ms_J3_checkIndex_8e157 ml_J0_1059 dJ0_checkIndex_df160_5 (by decide) (Nat.le_of_ble_eq_true rfl) (Nat.le_of_ble_eq_true rfl) ?_
    refine g_pop dJ0_checkIndex_df160_8 rfl ?_
    exact g_return dJ0_checkIndex_df160_9 rfl rfl
  intro ad D ca A p l e R s m args below meth c cells slots Q C F ls H locs hw hl
  obtain ⟨a1, a2, a3, a4, a5, t1, t2, z1, z2⟩ := C.2.2.2.2.2.2.1
  rcases z2 with z | ⟨t, z⟩
  · refine va_gets C.1 C.2.1 z hw.2 C.2.2.2.1 (C.2.2.2.2.1 _ fs_J0_1053) (fun _ q => q) dJ0_checkIndex_df160_2 ?_
    exact kn ad D ca A p l e R s m args below meth c cells slots Q C F ls H locs hw hl
  · refine va_gets C.1 C.2.1 z hw.2 C.2.2.2.1 (C.2.2.2.2.1 _ fs_J0_1053) (fun _ q => q) dJ0_checkIndex_df160_2 ?_
    have k1 := kr (adF ad t) D ca A p l e R s m args below meth c cells slots Q (Cx_adF C) (fun pc' ls' H' locs' hd' hw' => F pc' ls' H' locs' hd' ⟨WP_adF.mp hw'.1, hw'.2⟩) ls H locs ⟨WP_adF.mpr hw.1, hw.2⟩ ⟨hl.1, hl.2.1, fun j v hj hnv => by
      have h1 := hl.2.2 j v hj hnv
      match j, hj with
      | 0, hj => cases hj; exact h1
      | 1, hj => cases hj; exact h1⟩
    have e : adF ad t 200 = t := if_pos rfl
    have e2 : ([.ref 200, .int (nI n), .int (nI i)] : List Value).map (cv (adF ad t)) = [.ref t, .int (nI n), .int (nI i)] := by
      show [Value.ref (adF ad t 200), .int (nI n), .int (nI i)] = _
      rw [e]
    rw [e2] at k1
    exact k1
def txC (i q : Nat) : Int32 := (txByt.getD i []).getD q 0
theorem tx_c2 : ∀ i, i < 13 → ∀ q, q < txLen.getD i 0 → ((txC i q &&& 255).toUInt32 % 65536).toInt32 = txC i q ∧ narrow .char (.int (txC i q)) = .int (txC i q) := by decide +kernel

set_option maxRecDepth 100000 in
set_option maxHeartbeats 4000000 in
theorem c_J1_charAt {X : Sc} {h : Hp} {i q : Nat} (hi : i < 13) (hq : q < txLen.getD i 0) : Ct X yJ1_charAt_3b067 cJ1_charAt_3b067 2 (some .char) 2 [.ref (130 + i), .int (nI q)] h (some (.int (txC i q))) h := by
  refine ⟨(tx_c2 i hi q hq).2, ?_⟩
  refine g_iload_n dJ1_charAt_3b067_0 rfl ?_
  refine g_aload_n dJ1_charAt_3b067_1 rfl ?_
  refine g_stl hi dJ1_charAt_3b067_2 ?_
  refine g_callS2v (c_J0_checkIndex hq (by have := tx_small i hi; omega)) mi_J0_checkIndex_df160 ms_J0_checkIndex_df160 ml_J1_9 dJ1_charAt_3b067_3 (by decide) (Nat.le_of_ble_eq_true rfl) (Nat.le_of_ble_eq_true rfl) ?_
  refine g_aload_n dJ1_charAt_3b067_6 rfl ?_
  refine g_iload_n dJ1_charAt_3b067_7 rfl ?_
  refine g_stb q hi dJ1_charAt_3b067_8 rfl hq ?_
  refine g_sipush dJ1_charAt_3b067_9 sp_255 ?_
  refine g_iand dJ1_charAt_3b067_12 ?_
  refine g_i2c dJ1_charAt_3b067_13 ?_
  exact g_ireturn dJ1_charAt_3b067_14 (by rw [← (tx_c2 i hi q hq).1]; rfl) rfl

set_option maxRecDepth 100000 in
set_option maxHeartbeats 4000000 in
theorem c_J0_coder {X : Sc} {h : Hp} {i : Nat} (hi : i < 13) : Ct X yJ0_coder_7d493 cJ0_coder_7d493 1 (some .byte) 0 [.ref (110 + i)] h (some (.int 0)) h := by
  refine ⟨rfl, ?_⟩
  refine g_csZ dJ0_coder_7d493_0 fs_J0_38 ?_
  refine g_if_eq 13 dJ0_coder_7d493_3 (by decide) (fun c3 => ?_) (fun c3 => ?_)
  · exact absurd c3 (by decide)
  · refine g_aload_n dJ0_coder_7d493_6 rfl ?_
    refine g_scod hi dJ0_coder_7d493_7 fs_J0_15 ?_
    refine g_goto 14 dJ0_coder_7d493_10 (by decide) ?_
    exact g_ireturn dJ0_coder_7d493_14 rfl rfl

set_option maxRecDepth 100000 in
set_option maxHeartbeats 4000000 in
theorem c_J0_isLatin1 {X : Sc} {h : Hp} {i : Nat} (hi : i < 13) : Ct X yJ0_isLatin1_aae02 cJ0_isLatin1_aae02 1 (some .boolean) 0 [.ref (110 + i)] h (some (.int 1)) h := by
  refine ⟨rfl, ?_⟩
  refine g_csZ dJ0_isLatin1_aae02_0 fs_J0_38 ?_
  refine g_if_eq 17 dJ0_isLatin1_aae02_3 (by decide) (fun c3 => ?_) (fun c3 => ?_)
  · exact absurd c3 (by decide)
  · refine g_aload_n dJ0_isLatin1_aae02_6 rfl ?_
    refine g_scod hi dJ0_isLatin1_aae02_7 fs_J0_15 ?_
    refine g_if_ne 17 dJ0_isLatin1_aae02_10 (by decide) (fun c10 => ?_) (fun c10 => ?_)
    · exact absurd rfl c10
    · refine g_iconst dJ0_isLatin1_aae02_13 ic_1 ?_
      refine g_goto 18 dJ0_isLatin1_aae02_14 (by decide) ?_
      exact g_ireturn dJ0_isLatin1_aae02_18 rfl rfl

theorem tx_sh : ∀ i, i < 13 → nI (txLen.getD i 0) >>> ((0 : Int32) &&& 31) = nI (txLen.getD i 0) := by decide

set_option maxRecDepth 100000 in
set_option maxHeartbeats 4000000 in
theorem c_J0_length {X : Sc} {h : Hp} {i : Nat} (hi : i < 13) : Ct X yJ0_length_8abf5 cJ0_length_8abf5 1 (some .int) 1 [.ref (110 + i)] h (some (.int (nI (txLen.getD i 0)))) h := by
  refine ⟨rfl, ?_⟩
  refine g_aload_n dJ0_length_8abf5_0 rfl ?_
  refine g_sval hi dJ0_length_8abf5_1 fs_J0_9 ?_
  refine g_stl hi dJ0_length_8abf5_4 ?_
  refine g_aload_n dJ0_length_8abf5_5 rfl ?_
  refine g_callT (as := []) hi (c_J0_coder hi) mi_J0_coder_7d493 mv_J0_coder_7d493 ml_J0_335 dJ0_length_8abf5_6 rfl (by decide) rfl rfl (Nat.le_of_ble_eq_true rfl) (Nat.le_of_ble_eq_true rfl) ?_
  show Go _ _ _ _ _ _ _ [.int 0, .int (nI (txLen.getD i 0))] _ _ _
  refine g_ishr dJ0_length_8abf5_9 ?_
  exact g_ireturn dJ0_length_8abf5_10 (by rw [tx_sh i hi]) rfl

set_option maxRecDepth 100000 in
set_option maxHeartbeats 4000000 in
theorem c_J0_charAt {X : Sc} {h : Hp} {i q : Nat} (hi : i < 13) (hq : q < txLen.getD i 0) : Ct X yJ0_charAt_5068e cJ0_charAt_5068e 2 (some .char) 3 [.ref (110 + i), .int (nI q)] h (some (.int (txC i q))) h := by
  refine ⟨(tx_c2 i hi q hq).2, ?_⟩
  refine g_aload_n dJ0_charAt_5068e_0 rfl ?_
  refine g_callT (as := []) hi (c_J0_isLatin1 hi) mi_J0_isLatin1_aae02 mv_J0_isLatin1_aae02 ml_J0_492 dJ0_charAt_5068e_1 rfl (by decide) rfl rfl (Nat.le_of_ble_eq_true rfl) (Nat.le_of_ble_eq_true rfl) ?_
  show Go _ _ _ _ _ _ _ [.int 1] _ _ _
  refine g_if_eq 16 dJ0_charAt_5068e_4 (by decide) (fun c4 => ?_) (fun c4 => ?_)
  · exact absurd c4 (by decide)
  · refine g_aload_n dJ0_charAt_5068e_7 rfl ?_
    refine g_sval hi dJ0_charAt_5068e_8 fs_J0_9 ?_
    refine g_iload_n dJ0_charAt_5068e_11 rfl ?_
    refine g_callS2i (c_J1_charAt hi hq) mi_J1_charAt_3b067 ms_J1_charAt_3b067 ml_J0_495 dJ0_charAt_5068e_12 (by decide) (Nat.le_of_ble_eq_true rfl) (Nat.le_of_ble_eq_true rfl) ?_
    exact g_ireturn dJ0_charAt_5068e_15 rfl rfl

