/-! CALLS BY THE NUMBER OF ARGUMENTS; constants -/
section CV
variable {X : Sc} {own : String} {cc : ByteArray} {nL d pc : Nat} {lv st : List Value} {h h1 h' : Hp} {r : Option Value} {y : MethodName} {cc2 : ByteArray} {nL2 d2 idx i ci : Nat} {ret : Option FieldType} {fs : List Zf} {x a1 a2 a3 a4 a5 : Value}
theorem g_callV0v (hC : Ct X y cc2 nL2 ret d2 [.ref i] h none h1) (hM : MI y cc2 nL2 ret 0) (hV : MV y) (hL : Cond.methodLink own idx y ∈ gT) (hd : decode cc pc = .ok (.invokevirtual idx, 3)) (hs : shp[i]? = some (.inl (ci, fs))) (hc : (vwCl[ci]?).map (fun q => q.1) = some y.cls) (hdd : d2 + 1 ≤ d) (hsl : (lg_sl [.ref i]).length ≤ nL2) (hrm : (st.map fun v => v.category).sum ≤ 8) (k : Go X own cc nL d (pc + 3) lv st h1 r h') : Go X own cc nL d pc lv (.ref i :: st) h r h' := g_callV hC hM hV hL hd hs hc hdd rfl rfl hsl hrm k
theorem g_callS0v (hC : Ct X y cc2 nL2 ret d2 [] h none h1) (hM : MI y cc2 nL2 ret 0) (hV : Cond.static y ∈ gT) (hL : Cond.methodLink own idx y ∈ gT) (hd : decode cc pc = .ok (.invokestatic idx, 3)) (hdd : d2 + 1 ≤ d) (hsl : (lg_sl []).length ≤ nL2) (hrm : (st.map fun v => v.category).sum ≤ 8) (k : Go X own cc nL d (pc + 3) lv st h1 r h') : Go X own cc nL d pc lv (st) h r h' := g_callS hC hM hV hL hd hdd rfl rfl hsl hrm k
theorem g_callV0i (hC : Ct X y cc2 nL2 ret d2 [.ref i] h (some x) h1) (hM : MI y cc2 nL2 ret 0) (hV : MV y) (hL : Cond.methodLink own idx y ∈ gT) (hd : decode cc pc = .ok (.invokevirtual idx, 3)) (hs : shp[i]? = some (.inl (ci, fs))) (hc : (vwCl[ci]?).map (fun q => q.1) = some y.cls) (hdd : d2 + 1 ≤ d) (hsl : (lg_sl [.ref i]).length ≤ nL2) (hrm : (st.map fun v => v.category).sum ≤ 8) (k : Go X own cc nL d (pc + 3) lv (x :: st) h1 r h') : Go X own cc nL d pc lv (.ref i :: st) h r h' := g_callV hC hM hV hL hd hs hc hdd rfl rfl hsl hrm k
theorem g_callS0i (hC : Ct X y cc2 nL2 ret d2 [] h (some x) h1) (hM : MI y cc2 nL2 ret 0) (hV : Cond.static y ∈ gT) (hL : Cond.methodLink own idx y ∈ gT) (hd : decode cc pc = .ok (.invokestatic idx, 3)) (hdd : d2 + 1 ≤ d) (hsl : (lg_sl []).length ≤ nL2) (hrm : (st.map fun v => v.category).sum ≤ 8) (k : Go X own cc nL d (pc + 3) lv (x :: st) h1 r h') : Go X own cc nL d pc lv (st) h r h' := g_callS hC hM hV hL hd hdd rfl rfl hsl hrm k
theorem g_callV1v (hC : Ct X y cc2 nL2 ret d2 [.ref i, a1] h none h1) (hM : MI y cc2 nL2 ret 1) (hV : MV y) (hL : Cond.methodLink own idx y ∈ gT) (hd : decode cc pc = .ok (.invokevirtual idx, 3)) (hs : shp[i]? = some (.inl (ci, fs))) (hc : (vwCl[ci]?).map (fun q => q.1) = some y.cls) (hdd : d2 + 1 ≤ d) (hsl : (lg_sl [.ref i, a1]).length ≤ nL2) (hrm : (st.map fun v => v.category).sum ≤ 8) (k : Go X own cc nL d (pc + 3) lv st h1 r h') : Go X own cc nL d pc lv (a1 :: .ref i :: st) h r h' := g_callV hC hM hV hL hd hs hc hdd rfl rfl hsl hrm k
theorem g_callS1v (hC : Ct X y cc2 nL2 ret d2 [a1] h none h1) (hM : MI y cc2 nL2 ret 1) (hV : Cond.static y ∈ gT) (hL : Cond.methodLink own idx y ∈ gT) (hd : decode cc pc = .ok (.invokestatic idx, 3)) (hdd : d2 + 1 ≤ d) (hsl : (lg_sl [a1]).length ≤ nL2) (hrm : (st.map fun v => v.category).sum ≤ 8) (k : Go X own cc nL d (pc + 3) lv st h1 r h') : Go X own cc nL d pc lv (a1 :: st) h r h' := g_callS hC hM hV hL hd hdd rfl rfl hsl hrm k
theorem g_callV1i (hC : Ct X y cc2 nL2 ret d2 [.ref i, a1] h (some x) h1) (hM : MI y cc2 nL2 ret 1) (hV : MV y) (hL : Cond.methodLink own idx y ∈ gT) (hd : decode cc pc = .ok (.invokevirtual idx, 3)) (hs : shp[i]? = some (.inl (ci, fs))) (hc : (vwCl[ci]?).map (fun q => q.1) = some y.cls) (hdd : d2 + 1 ≤ d) (hsl : (lg_sl [.ref i, a1]).length ≤ nL2) (hrm : (st.map fun v => v.category).sum ≤ 8) (k : Go X own cc nL d (pc + 3) lv (x :: st) h1 r h') : Go X own cc nL d pc lv (a1 :: .ref i :: st) h r h' := g_callV hC hM hV hL hd hs hc hdd rfl rfl hsl hrm k
theorem g_callS1i (hC : Ct X y cc2 nL2 ret d2 [a1] h (some x) h1) (hM : MI y cc2 nL2 ret 1) (hV : Cond.static y ∈ gT) (hL : Cond.methodLink own idx y ∈ gT) (hd : decode cc pc = .ok (.invokestatic idx, 3)) (hdd : d2 + 1 ≤ d) (hsl : (lg_sl [a1]).length ≤ nL2) (hrm : (st.map fun v => v.category).sum ≤ 8) (k : Go X own cc nL d (pc + 3) lv (x :: st) h1 r h') : Go X own cc nL d pc lv (a1 :: st) h r h' := g_callS hC hM hV hL hd hdd rfl rfl hsl hrm k
theorem g_callV2v (hC : Ct X y cc2 nL2 ret d2 [.ref i, a1, a2] h none h1) (hM : MI y cc2 nL2 ret 2) (hV : MV y) (hL : Cond.methodLink own idx y ∈ gT) (hd : decode cc pc = .ok (.invokevirtual idx, 3)) (hs : shp[i]? = some (.inl (ci, fs))) (hc : (vwCl[ci]?).map (fun q => q.1) = some y.cls) (hdd : d2 + 1 ≤ d) (hsl : (lg_sl [.ref i, a1, a2]).length ≤ nL2) (hrm : (st.map fun v => v.category).sum ≤ 8) (k : Go X own cc nL d (pc + 3) lv st h1 r h') : Go X own cc nL d pc lv (a2 :: a1 :: .ref i :: st) h r h' := g_callV hC hM hV hL hd hs hc hdd rfl rfl hsl hrm k
theorem g_callS2v (hC : Ct X y cc2 nL2 ret d2 [a1, a2] h none h1) (hM : MI y cc2 nL2 ret 2) (hV : Cond.static y ∈ gT) (hL : Cond.methodLink own idx y ∈ gT) (hd : decode cc pc = .ok (.invokestatic idx, 3)) (hdd : d2 + 1 ≤ d) (hsl : (lg_sl [a1, a2]).length ≤ nL2) (hrm : (st.map fun v => v.category).sum ≤ 8) (k : Go X own cc nL d (pc + 3) lv st h1 r h') : Go X own cc nL d pc lv (a2 :: a1 :: st) h r h' := g_callS hC hM hV hL hd hdd rfl rfl hsl hrm k
theorem g_callV2i (hC : Ct X y cc2 nL2 ret d2 [.ref i, a1, a2] h (some x) h1) (hM : MI y cc2 nL2 ret 2) (hV : MV y) (hL : Cond.methodLink own idx y ∈ gT) (hd : decode cc pc = .ok (.invokevirtual idx, 3)) (hs : shp[i]? = some (.inl (ci, fs))) (hc : (vwCl[ci]?).map (fun q => q.1) = some y.cls) (hdd : d2 + 1 ≤ d) (hsl : (lg_sl [.ref i, a1, a2]).length ≤ nL2) (hrm : (st.map fun v => v.category).sum ≤ 8) (k : Go X own cc nL d (pc + 3) lv (x :: st) h1 r h') : Go X own cc nL d pc lv (a2 :: a1 :: .ref i :: st) h r h' := g_callV hC hM hV hL hd hs hc hdd rfl rfl hsl hrm k
theorem g_callS2i (hC : Ct X y cc2 nL2 ret d2 [a1, a2] h (some x) h1) (hM : MI y cc2 nL2 ret 2) (hV : Cond.static y ∈ gT) (hL : Cond.methodLink own idx y ∈ gT) (hd : decode cc pc = .ok (.invokestatic idx, 3)) (hdd : d2 + 1 ≤ d) (hsl : (lg_sl [a1, a2]).length ≤ nL2) (hrm : (st.map fun v => v.category).sum ≤ 8) (k : Go X own cc nL d (pc + 3) lv (x :: st) h1 r h') : Go X own cc nL d pc lv (a2 :: a1 :: st) h r h' := g_callS hC hM hV hL hd hdd rfl rfl hsl hrm k
theorem g_callV3v (hC : Ct X y cc2 nL2 ret d2 [.ref i, a1, a2, a3] h none h1) (hM : MI y cc2 nL2 ret 3) (hV : MV y) (hL : Cond.methodLink own idx y ∈ gT) (hd : decode cc pc = .ok (.invokevirtual idx, 3)) (hs : shp[i]? = some (.inl (ci, fs))) (hc : (vwCl[ci]?).map (fun q => q.1) = some y.cls) (hdd : d2 + 1 ≤ d) (hsl : (lg_sl [.ref i, a1, a2, a3]).length ≤ nL2) (hrm : (st.map fun v => v.category).sum ≤ 8) (k : Go X own cc nL d (pc + 3) lv st h1 r h') : Go X own cc nL d pc lv (a3 :: a2 :: a1 :: .ref i :: st) h r h' := g_callV hC hM hV hL hd hs hc hdd rfl rfl hsl hrm k
theorem g_callS3v (hC : Ct X y cc2 nL2 ret d2 [a1, a2, a3] h none h1) (hM : MI y cc2 nL2 ret 3) (hV : Cond.static y ∈ gT) (hL : Cond.methodLink own idx y ∈ gT) (hd : decode cc pc = .ok (.invokestatic idx, 3)) (hdd : d2 + 1 ≤ d) (hsl : (lg_sl [a1, a2, a3]).length ≤ nL2) (hrm : (st.map fun v => v.category).sum ≤ 8) (k : Go X own cc nL d (pc + 3) lv st h1 r h') : Go X own cc nL d pc lv (a3 :: a2 :: a1 :: st) h r h' := g_callS hC hM hV hL hd hdd rfl rfl hsl hrm k
theorem g_callV3i (hC : Ct X y cc2 nL2 ret d2 [.ref i, a1, a2, a3] h (some x) h1) (hM : MI y cc2 nL2 ret 3) (hV : MV y) (hL : Cond.methodLink own idx y ∈ gT) (hd : decode cc pc = .ok (.invokevirtual idx, 3)) (hs : shp[i]? = some (.inl (ci, fs))) (hc : (vwCl[ci]?).map (fun q => q.1) = some y.cls) (hdd : d2 + 1 ≤ d) (hsl : (lg_sl [.ref i, a1, a2, a3]).length ≤ nL2) (hrm : (st.map fun v => v.category).sum ≤ 8) (k : Go X own cc nL d (pc + 3) lv (x :: st) h1 r h') : Go X own cc nL d pc lv (a3 :: a2 :: a1 :: .ref i :: st) h r h' := g_callV hC hM hV hL hd hs hc hdd rfl rfl hsl hrm k
theorem g_callS3i (hC : Ct X y cc2 nL2 ret d2 [a1, a2, a3] h (some x) h1) (hM : MI y cc2 nL2 ret 3) (hV : Cond.static y ∈ gT) (hL : Cond.methodLink own idx y ∈ gT) (hd : decode cc pc = .ok (.invokestatic idx, 3)) (hdd : d2 + 1 ≤ d) (hsl : (lg_sl [a1, a2, a3]).length ≤ nL2) (hrm : (st.map fun v => v.category).sum ≤ 8) (k : Go X own cc nL d (pc + 3) lv (x :: st) h1 r h') : Go X own cc nL d pc lv (a3 :: a2 :: a1 :: st) h r h' := g_callS hC hM hV hL hd hdd rfl rfl hsl hrm k
theorem g_callV4v (hC : Ct X y cc2 nL2 ret d2 [.ref i, a1, a2, a3, a4] h none h1) (hM : MI y cc2 nL2 ret 4) (hV : MV y) (hL : Cond.methodLink own idx y ∈ gT) (hd : decode cc pc = .ok (.invokevirtual idx, 3)) (hs : shp[i]? = some (.inl (ci, fs))) (hc : (vwCl[ci]?).map (fun q => q.1) = some y.cls) (hdd : d2 + 1 ≤ d) (hsl : (lg_sl [.ref i, a1, a2, a3, a4]).length ≤ nL2) (hrm : (st.map fun v => v.category).sum ≤ 8) (k : Go X own cc nL d (pc + 3) lv st h1 r h') : Go X own cc nL d pc lv (a4 :: a3 :: a2 :: a1 :: .ref i :: st) h r h' := g_callV hC hM hV hL hd hs hc hdd rfl rfl hsl hrm k
theorem g_callS4v (hC : Ct X y cc2 nL2 ret d2 [a1, a2, a3, a4] h none h1) (hM : MI y cc2 nL2 ret 4) (hV : Cond.static y ∈ gT) (hL : Cond.methodLink own idx y ∈ gT) (hd : decode cc pc = .ok (.invokestatic idx, 3)) (hdd : d2 + 1 ≤ d) (hsl : (lg_sl [a1, a2, a3, a4]).length ≤ nL2) (hrm : (st.map fun v => v.category).sum ≤ 8) (k : Go X own cc nL d (pc + 3) lv st h1 r h') : Go X own cc nL d pc lv (a4 :: a3 :: a2 :: a1 :: st) h r h' := g_callS hC hM hV hL hd hdd rfl rfl hsl hrm k
theorem g_callV4i (hC : Ct X y cc2 nL2 ret d2 [.ref i, a1, a2, a3, a4] h (some x) h1) (hM : MI y cc2 nL2 ret 4) (hV : MV y) (hL : Cond.methodLink own idx y ∈ gT) (hd : decode cc pc = .ok (.invokevirtual idx, 3)) (hs : shp[i]? = some (.inl (ci, fs))) (hc : (vwCl[ci]?).map (fun q => q.1) = some y.cls) (hdd : d2 + 1 ≤ d) (hsl : (lg_sl [.ref i, a1, a2, a3, a4]).length ≤ nL2) (hrm : (st.map fun v => v.category).sum ≤ 8) (k : Go X own cc nL d (pc + 3) lv (x :: st) h1 r h') : Go X own cc nL d pc lv (a4 :: a3 :: a2 :: a1 :: .ref i :: st) h r h' := g_callV hC hM hV hL hd hs hc hdd rfl rfl hsl hrm k
theorem g_callS4i (hC : Ct X y cc2 nL2 ret d2 [a1, a2, a3, a4] h (some x) h1) (hM : MI y cc2 nL2 ret 4) (hV : Cond.static y ∈ gT) (hL : Cond.methodLink own idx y ∈ gT) (hd : decode cc pc = .ok (.invokestatic idx, 3)) (hdd : d2 + 1 ≤ d) (hsl : (lg_sl [a1, a2, a3, a4]).length ≤ nL2) (hrm : (st.map fun v => v.category).sum ≤ 8) (k : Go X own cc nL d (pc + 3) lv (x :: st) h1 r h') : Go X own cc nL d pc lv (a4 :: a3 :: a2 :: a1 :: st) h r h' := g_callS hC hM hV hL hd hdd rfl rfl hsl hrm k
theorem g_callV5v (hC : Ct X y cc2 nL2 ret d2 [.ref i, a1, a2, a3, a4, a5] h none h1) (hM : MI y cc2 nL2 ret 5) (hV : MV y) (hL : Cond.methodLink own idx y ∈ gT) (hd : decode cc pc = .ok (.invokevirtual idx, 3)) (hs : shp[i]? = some (.inl (ci, fs))) (hc : (vwCl[ci]?).map (fun q => q.1) = some y.cls) (hdd : d2 + 1 ≤ d) (hsl : (lg_sl [.ref i, a1, a2, a3, a4, a5]).length ≤ nL2) (hrm : (st.map fun v => v.category).sum ≤ 8) (k : Go X own cc nL d (pc + 3) lv st h1 r h') : Go X own cc nL d pc lv (a5 :: a4 :: a3 :: a2 :: a1 :: .ref i :: st) h r h' := g_callV hC hM hV hL hd hs hc hdd rfl rfl hsl hrm k
theorem g_callS5v (hC : Ct X y cc2 nL2 ret d2 [a1, a2, a3, a4, a5] h none h1) (hM : MI y cc2 nL2 ret 5) (hV : Cond.static y ∈ gT) (hL : Cond.methodLink own idx y ∈ gT) (hd : decode cc pc = .ok (.invokestatic idx, 3)) (hdd : d2 + 1 ≤ d) (hsl : (lg_sl [a1, a2, a3, a4, a5]).length ≤ nL2) (hrm : (st.map fun v => v.category).sum ≤ 8) (k : Go X own cc nL d (pc + 3) lv st h1 r h') : Go X own cc nL d pc lv (a5 :: a4 :: a3 :: a2 :: a1 :: st) h r h' := g_callS hC hM hV hL hd hdd rfl rfl hsl hrm k
theorem g_callV5i (hC : Ct X y cc2 nL2 ret d2 [.ref i, a1, a2, a3, a4, a5] h (some x) h1) (hM : MI y cc2 nL2 ret 5) (hV : MV y) (hL : Cond.methodLink own idx y ∈ gT) (hd : decode cc pc = .ok (.invokevirtual idx, 3)) (hs : shp[i]? = some (.inl (ci, fs))) (hc : (vwCl[ci]?).map (fun q => q.1) = some y.cls) (hdd : d2 + 1 ≤ d) (hsl : (lg_sl [.ref i, a1, a2, a3, a4, a5]).length ≤ nL2) (hrm : (st.map fun v => v.category).sum ≤ 8) (k : Go X own cc nL d (pc + 3) lv (x :: st) h1 r h') : Go X own cc nL d pc lv (a5 :: a4 :: a3 :: a2 :: a1 :: .ref i :: st) h r h' := g_callV hC hM hV hL hd hs hc hdd rfl rfl hsl hrm k
theorem g_callS5i (hC : Ct X y cc2 nL2 ret d2 [a1, a2, a3, a4, a5] h (some x) h1) (hM : MI y cc2 nL2 ret 5) (hV : Cond.static y ∈ gT) (hL : Cond.methodLink own idx y ∈ gT) (hd : decode cc pc = .ok (.invokestatic idx, 3)) (hdd : d2 + 1 ≤ d) (hsl : (lg_sl [a1, a2, a3, a4, a5]).length ≤ nL2) (hrm : (st.map fun v => v.category).sum ≤ 8) (k : Go X own cc nL d (pc + 3) lv (x :: st) h1 r h') : Go X own cc nL d pc lv (a5 :: a4 :: a3 :: a2 :: a1 :: st) h r h' := g_callS hC hM hV hL hd hdd rfl rfl hsl hrm k
theorem g_iald0 {n g : Nat} {j : Int32} (q : Nat) (hd : decode cc pc = .ok (.iaload, 1)) (hs : shp[i]? = some (.inr (0, n, g, 0))) (hj : j = nI q) (hq : q < n) (kk : Go X own cc nL d (pc + 1) lv (.int (h g q) :: st) h r h') : Go X own cc nL d pc lv (.int j :: .ref i :: st) h r h' :=
  g_iald q hd hs hj hq (by rw [Nat.zero_add]; exact kk)
theorem g_iast0 {n g : Nat} {j x : Int32} (q : Nat) (hd : decode cc pc = .ok (.iastore, 1)) (hs : shp[i]? = some (.inr (0, n, g, 0))) (hj : j = nI q) (hq : q < n) (kk : Go X own cc nL d (pc + 1) lv st (up h g q x) r h') : Go X own cc nL d pc lv (.int x :: .int j :: .ref i :: st) h r h' :=
  g_iast q hd hs hj hq (by rw [Nat.zero_add]; exact kk)
theorem g_h {h2 : Hp} (e : h = h2) (k : Go X own cc nL d pc lv st h2 r h') : Go X own cc nL d pc lv st h r h' := by rw [e]; exact k
theorem g_st {st2 : List Value} (e : st = st2) (k : Go X own cc nL d pc lv st2 h r h') : Go X own cc nL d pc lv st h r h' := by rw [e]; exact k
theorem g_lv {lv2 : List Value} (e : lv = lv2) (k : Go X own cc nL d pc lv2 st h r h') : Go X own cc nL d pc lv st h r h' := by rw [e]; exact k
end CV
theorem bp_m5 : (Int8.ofInt (-5)).toInt32 = (-5) := by decide
theorem bp_m2 : (Int8.ofInt (-2)).toInt32 = (-2) := by decide
theorem bp_6 : (Int8.ofInt (6)).toInt32 = (6) := by decide
theorem bp_7 : (Int8.ofInt (7)).toInt32 = (7) := by decide
theorem bp_8 : (Int8.ofInt (8)).toInt32 = (8) := by decide
theorem bp_9 : (Int8.ofInt (9)).toInt32 = (9) := by decide
theorem bp_10 : (Int8.ofInt (10)).toInt32 = (10) := by decide
theorem bp_11 : (Int8.ofInt (11)).toInt32 = (11) := by decide
theorem bp_12 : (Int8.ofInt (12)).toInt32 = (12) := by decide
theorem bp_13 : (Int8.ofInt (13)).toInt32 = (13) := by decide
theorem bp_16 : (Int8.ofInt (16)).toInt32 = (16) := by decide
theorem bp_20 : (Int8.ofInt (20)).toInt32 = (20) := by decide
theorem bp_21 : (Int8.ofInt (21)).toInt32 = (21) := by decide
theorem bp_22 : (Int8.ofInt (22)).toInt32 = (22) := by decide
theorem bp_23 : (Int8.ofInt (23)).toInt32 = (23) := by decide
theorem bp_30 : (Int8.ofInt (30)).toInt32 = (30) := by decide
theorem bp_32 : (Int8.ofInt (32)).toInt32 = (32) := by decide
theorem bp_40 : (Int8.ofInt (40)).toInt32 = (40) := by decide
theorem bp_48 : (Int8.ofInt (48)).toInt32 = (48) := by decide
theorem bp_50 : (Int8.ofInt (50)).toInt32 = (50) := by decide
theorem bp_57 : (Int8.ofInt (57)).toInt32 = (57) := by decide
theorem bp_58 : (Int8.ofInt (58)).toInt32 = (58) := by decide
theorem bp_59 : (Int8.ofInt (59)).toInt32 = (59) := by decide
theorem bp_60 : (Int8.ofInt (60)).toInt32 = (60) := by decide
theorem bp_63 : (Int8.ofInt (63)).toInt32 = (63) := by decide
theorem bp_88 : (Int8.ofInt (88)).toInt32 = (88) := by decide
theorem bp_97 : (Int8.ofInt (97)).toInt32 = (97) := by decide
theorem bp_98 : (Int8.ofInt (98)).toInt32 = (98) := by decide
theorem bp_99 : (Int8.ofInt (99)).toInt32 = (99) := by decide
theorem bp_100 : (Int8.ofInt (100)).toInt32 = (100) := by decide
theorem bp_120 : (Int8.ofInt (120)).toInt32 = (120) := by decide
theorem bp_122 : (Int8.ofInt (122)).toInt32 = (122) := by decide
theorem ic_m1 : Int32.ofInt (-1) = (-1) := by decide
theorem ic_0 : Int32.ofInt (0) = (0) := by decide
theorem ic_1 : Int32.ofInt (1) = (1) := by decide
theorem ic_2 : Int32.ofInt (2) = (2) := by decide
theorem ic_3 : Int32.ofInt (3) = (3) := by decide
theorem ic_4 : Int32.ofInt (4) = (4) := by decide
theorem ic_5 : Int32.ofInt (5) = (5) := by decide
theorem lq_1 : Int64.ofNat ((1 : Fin 2) : Nat) = (1) := by decide
theorem sp_160 : (Int16.ofInt (160)).toInt32 = (160) := by decide
theorem sp_200 : (Int16.ofInt (200)).toInt32 = (200) := by decide
theorem sp_255 : (Int16.ofInt (255)).toInt32 = (255) := by decide
theorem sp_4095 : (Int16.ofInt (4095)).toInt32 = (4095) := by decide
theorem sp_9999 : (Int16.ofInt (9999)).toInt32 = (9999) := by decide
theorem sp_12345 : (Int16.ofInt (12345)).toInt32 = (12345) := by decide
theorem ii_n (k : Nat) : nI k + Int32.ofInt 1 = nI (k + 1) := by rw [ic_1, nI_1]
theorem ii_1 (x : Int32) : x + Int32.ofInt 1 = x + 1 := by rw [ic_1]
theorem ii_m1 (x : Int32) : x + Int32.ofInt (-1) = x + (-1) := by rw [ic_m1]

/-! WORDS -/
abbrev Rw : Type := Nat → Int32
def setg (h : Hp) (g : Nat) (m : Rw) : Hp := fun a => if a = g then m else h a
theorem up_setg (h : Hp) (g k : Nat) (v : Int32) : up h g k v = setg h g (upd (h g) k v) := by
  funext a
  unfold up setg
  by_cases e : a = g
  · rw [if_pos e, if_pos e, e]
  · rw [if_neg e, if_neg e]
theorem setg_s (h : Hp) (g : Nat) (m : Rw) : setg h g m g = m := by simp [setg]
theorem setg_n (h : Hp) {g a : Nat} (m : Rw) (n : a ≠ g) : setg h g m a = h a := by simp [setg, n]
theorem setg_2 (h : Hp) (g : Nat) (m m2 : Rw) : setg (setg h g m) g m2 = setg h g m2 := by
  funext a
  by_cases e : a = g <;> simp [setg, e]
theorem setg_id (h : Hp) (g : Nat) : setg h g (h g) = h := by
  funext a
  by_cases e : a = g <;> simp [setg, e]
theorem setg_c (h : Hp) {g g2 : Nat} (n : g ≠ g2) (m m2 : Rw) : setg (setg h g m) g2 m2 = setg (setg h g2 m2) g m := by
  funext a
  by_cases e : a = g
  · subst e; simp [setg, n]
  · simp [setg, e]
theorem upd_s (m : Rw) (k : Nat) (v : Int32) : upd m k v k = v := by simp [upd]
theorem upd_n (m : Rw) {k a : Nat} (v : Int32) (n : a ≠ k) : upd m k v a = m a := by simp [upd, n]
theorem upd_2 (m : Rw) (k : Nat) (v v2 : Int32) : upd (upd m k v) k v2 = upd m k v2 := by
  funext a
  by_cases e : a = k <;> simp [upd, e]
theorem upd_c (m : Rw) {k k2 : Nat} (n : k ≠ k2) (v v2 : Int32) : upd (upd m k v) k2 v2 = upd (upd m k2 v2) k v := by
  funext a
  by_cases e : a = k
  · subst e; simp [upd, n]
  · simp [upd, e]
theorem upd_id (m : Rw) (k : Nat) : upd m k (m k) = m := by
  funext a
  by_cases e : a = k <;> simp [upd, e]
def bI (b : Bool) : Int32 := if b then 1 else 0
theorem bI_0 (b : Bool) : bI b = 0 ↔ b = false := by cases b <;> decide
theorem bI_1 (b : Bool) : bI b = 1 ↔ b = true := by cases b <;> decide
theorem rok_b (b : Bool) : rok (some .boolean) (some (.int (bI b))) := by cases b <;> rfl
theorem nz_b (b : Bool) : narrow .boolean (.int (bI b)) = .int (bI b) := by cases b <;> rfl
theorem fz_b (b : Bool) : fits .boolean (.int (bI b)) = true := by cases b <;> rfl
/-- an inn's cells -/
def InnAt (b g : Nat) : Prop := shp[b]? = some (.inl (0, [.inl (b + 1), .inl (b + 2), .inl (b + 3), .inl (b + 4), .inr (g, 2), .inr (g, 3), .inr (g, 0), .inr (g, 1)])) ∧ shp[b + 1]? = some (.inr (0, 6, g, 4)) ∧ shp[b + 2]? = some (.inr (0, 48, g, 10)) ∧ shp[b + 3]? = some (.inr (0, 30, g, 58)) ∧ shp[b + 4]? = some (.inr (0, 10, g, 88))
theorem inn1 : InnAt 1 1 := ⟨rfl, rfl, rfl, rfl, rfl⟩
theorem inn2 : InnAt 6 2 := ⟨rfl, rfl, rfl, rfl, rfl⟩
theorem inn3 : InnAt 11 3 := ⟨rfl, rfl, rfl, rfl, rfl⟩
def nD (m : Rw) : Nat := (m 2).toNatClampNeg
def nG (m : Rw) : Nat := (m 3).toNatClampNeg
def isD (m : Rw) (x : Int32) : Bool := !decide (x < 0) && !decide (m 2 ≤ x)
def isG (m : Rw) (x : Int32) : Bool := !decide (x < 0) && !decide (m 3 ≤ x)
def dF (m : Rw) (d w : Nat) : Int32 := m (10 + (d * 6 + w))
def gF (m : Rw) (g w : Nat) : Int32 := m (58 + (g * 5 + w))
def pD (m : Rw) (d w : Nat) (v : Int32) : Rw := upd m (10 + (d * 6 + w)) v
def pG (m : Rw) (g w : Nat) (v : Int32) : Rw := upd m (58 + (g * 5 + w)) v
def evn (x : Int32) : Bool := decide (x - x / 2 * 2 = 0)
/-- whether one of the first n guests but g is for a town -/
def othG (m : Rw) (g : Nat) (t : Int32) : Nat → Bool
  | 0 => false
  | n + 1 => othG m g t n || (!decide (n = g) && decide (gF m n 1 = t))
def lft (m : Rw) (g d : Nat) : Bool :=
  if dF m d 0 = 1 then evn (gF m g 0) else if dF m d 0 = 6 then (if evn (dF m d 4) = true then evn (gF m g 0) else !evn (gF m g 0)) else if dF m d 0 = 2 then decide (gF m g 0 < 30) else if dF m d 0 = 3 then (decide (gF m g 0 < 30) || othG m g (dF m d 2) (nG m)) else if dF m d 0 = 4 then evn (dF m d 4) else if dF m d 0 = 5 then true else decide (gF m g 0 < 50)
def bnd (k : Int32) (l : Bool) : Int32 :=
  if k = 1 then (if l then -5 else 5) - 1 else if k = 6 then 1 else if k = 2 then 2 * (if l then -5 else 5) else if k = 3 then 2 * (if l then -5 else 5) + 3 else if k = 4 then 3 - 2 * (if l then -5 else 5) else if k = 5 then 0 else (if l then -5 else 5)
def cst (m : Rw) (g d : Nat) (l : Bool) : Int32 :=
  if dF m d 0 = 1 then (if 2 < dF m d 3 then dF m d 3 - 2 else 0) else if dF m d 0 = 6 then 1 else if dF m d 0 = 2 then dF m d 3 + gF m g 0 / 10 else if dF m d 0 = 3 then 2 * (dF m d 3 + gF m g 0 / 10) else if dF m d 0 = 4 then (if l then 2 * (dF m d 3 + gF m g 0 / 10) else dF m d 3 + gF m g 0 / 10) else dF m d 3
def twn (m : Rw) (d : Nat) (l : Bool) : Int32 := dF m d (if l then 1 else 2)
def hld (x lo hi : Int32) : Int32 := if x < lo then lo else if hi < x then hi else x
def eatR (m : Rw) (g d : Nat) : Rw :=
  pD (pG (pG (pG (pG (pG m g 2 (hld (gF m g 2 + cst m g d (lft m g d)) 0 99999)) g 1 (twn m d (lft m g d))) g 3 (gF m g 3 ||| 1 <<< (twn m d (lft m g d) &&& 31))) g 4 (hld (gF m g 4 + 1) 0 9999)) g 0 (hld (gF m g 0 + bnd (dF m d 0) (lft m g d)) 0 99)) d 4 (hld (dF m d 4 + 1) 0 9999)
def mealOf (m : Rw) : Nat := (m (4 + (m 0).toNatClampNeg % 6)).toNatClampNeg
def dayR (m : Rw) : Rw := upd (if mealOf m / 10 < nG m ∧ mealOf m % 10 < nD m ∧ dF m (mealOf m % 10) 5 = 0 then eatR m (mealOf m / 10) (mealOf m % 10) else m) 0 (hld (m 0 + 1) 0 99999)
def daysR (m : Rw) : Nat → Rw
  | 0 => m
  | n + 1 => dayR (daysR m n)
/-! what holds of an inn's row -/
def dTop : Nat → Nat
  | 0 => 6 | 1 => 11 | 2 => 11 | 3 => 99 | 4 => 9999 | _ => 1
def gTop : Nat → Nat
  | 0 => 99 | 1 => 11 | 2 => 99999 | 3 => 4095 | _ => 9999
def okc (k x : Nat) : Prop := if k = 0 then x ≤ 99999 else if k = 2 then x ≤ 8 else if k = 3 then x ≤ 6 else if k < 10 then x / 10 < 6 ∧ x % 10 < 8 else if k < 58 then x ≤ dTop ((k - 10) % 6) else x ≤ gTop ((k - 58) % 5)
def In (m : Rw) : Prop := (∀ k, k < 88 → k ≠ 1 → ∃ x, okc k x ∧ m k = nI x) ∧ ∀ s, s < 10 → m (88 + s) = -1 ∨ ∃ x, x < nD m ∧ m (88 + s) = nI x
theorem In.d {m : Rw} (h : In m) {d w : Nat} (hd : d < 8) (hw : w < 6) : ∃ x, x ≤ dTop w ∧ dF m d w = nI x := by
  obtain ⟨x, hx, e⟩ := h.1 (10 + (d * 6 + w)) (by omega) (by omega)
  refine ⟨x, ?_, e⟩
  unfold okc at hx
  rw [if_neg (by omega), if_neg (by omega), if_neg (by omega), if_neg (by omega), if_pos (by omega), show (10 + (d * 6 + w) - 10) % 6 = w by omega] at hx
  exact hx
theorem In.g {m : Rw} (h : In m) {g w : Nat} (hg : g < 6) (hw : w < 5) : ∃ x, x ≤ gTop w ∧ gF m g w = nI x := by
  obtain ⟨x, hx, e⟩ := h.1 (58 + (g * 5 + w)) (by omega) (by omega)
  refine ⟨x, ?_, e⟩
  unfold okc at hx
  rw [if_neg (by omega), if_neg (by omega), if_neg (by omega), if_neg (by omega), if_neg (by omega), show (58 + (g * 5 + w) - 58) % 5 = w by omega] at hx
  exact hx
theorem In.nD {m : Rw} (h : In m) : nD m ≤ 8 ∧ m 2 = nI (nD m) := by
  obtain ⟨x, hx, e⟩ := h.1 2 (by omega) (by omega)
  have h1 : x ≤ 8 := by simpa [okc] using hx
  have h2 : _root_.Jvm.Pilot.CForkInnLaw_law_r3082_bfc7c5.nD m = x := by unfold Jvm.Pilot.CForkInnLaw_law_r3082_bfc7c5.nD; rw [e]; exact nI_clamp (by omega)
  rw [h2]; exact ⟨h1, e⟩
theorem In.nG {m : Rw} (h : In m) : nG m ≤ 6 ∧ m 3 = nI (nG m) := by
  obtain ⟨x, hx, e⟩ := h.1 3 (by omega) (by omega)
  have h1 : x ≤ 6 := by simpa [okc] using hx
  have h2 : _root_.Jvm.Pilot.CForkInnLaw_law_r3082_bfc7c5.nG m = x := by unfold Jvm.Pilot.CForkInnLaw_law_r3082_bfc7c5.nG; rw [e]; exact nI_clamp (by omega)
  rw [h2]; exact ⟨h1, e⟩
theorem In.day {m : Rw} (h : In m) : ∃ t, t ≤ 99999 ∧ m 0 = nI t := by
  obtain ⟨x, hx, e⟩ := h.1 0 (by omega) (by omega)
  exact ⟨x, by simpa [okc] using hx, e⟩
theorem In.meal {m : Rw} (h : In m) {i : Nat} (hi : i < 6) : ∃ x, x / 10 < 6 ∧ x % 10 < 8 ∧ m (4 + i) = nI x := by
  obtain ⟨x, hx, e⟩ := h.1 (4 + i) (by omega) (by omega)
  refine ⟨x, ?_⟩
  unfold okc at hx
  rw [if_neg (by omega), if_neg (by omega), if_neg (by omega), if_pos (by omega)] at hx
  exact ⟨hx.1, hx.2, e⟩
theorem isD_nI {m : Rw} {D d : Nat} (e : m 2 = nI D) (hD : D < 2 ^ 31) (hd : d < 2 ^ 31) : isD m (nI d) = decide (d < D) := by
  unfold isD
  rw [e, decide_eq_false (nI_pos hd), Bool.not_false, Bool.true_and]
  by_cases q : d < D
  · rw [decide_eq_true q, decide_eq_false (nI_ge q hD)]; rfl
  · rw [decide_eq_false q, decide_eq_true (nI_le (by omega) hd)]; rfl
theorem isG_nI {m : Rw} {D d : Nat} (e : m 3 = nI D) (hD : D < 2 ^ 31) (hd : d < 2 ^ 31) : isG m (nI d) = decide (d < D) := by
  unfold isG
  rw [e, decide_eq_false (nI_pos hd), Bool.not_false, Bool.true_and]
  by_cases q : d < D
  · rw [decide_eq_true q, decide_eq_false (nI_ge q hD)]; rfl
  · rw [decide_eq_false q, decide_eq_true (nI_le (by omega) hd)]; rfl
theorem isD_of {m : Rw} (h : In m) {x : Int32} (hx : isD m x = true) : ∃ d, d < nD m ∧ d < 8 ∧ x = nI d := by
  unfold isD at hx
  simp only [Bool.and_eq_true, Bool.not_eq_true', decide_eq_false_iff_not] at hx
  obtain ⟨j, hj, rfl⟩ := nI_of hx.1
  have h1 := h.nD
  have h2 : j < nD m := by
    rcases Nat.lt_or_ge j (nD m) with q | q
    · exact q
    · exact absurd (by rw [h1.2]; exact nI_le q hj) hx.2
  exact ⟨j, h2, by omega, rfl⟩
theorem isG_of {m : Rw} (h : In m) {x : Int32} (hx : isG m x = true) : ∃ d, d < nG m ∧ d < 6 ∧ x = nI d := by
  unfold isG at hx
  simp only [Bool.and_eq_true, Bool.not_eq_true', decide_eq_false_iff_not] at hx
  obtain ⟨j, hj, rfl⟩ := nI_of hx.1
  have h1 := h.nG
  have h2 : j < nG m := by
    rcases Nat.lt_or_ge j (nG m) with q | q
    · exact q
    · exact absurd (by rw [h1.2]; exact nI_le q hj) hx.2
  exact ⟨j, h2, by omega, rfl⟩
theorem ix6 (d w : Nat) : nI d * 6 + nI w = nI (d * 6 + w) := by rw [show (6 : Int32) = nI 6 from rfl, pk_mul, nI_add]
theorem ix5 (d w : Nat) : nI d * 5 + nI w = nI (d * 5 + w) := by rw [show (5 : Int32) = nI 5 from rfl, pk_mul, nI_add]
theorem jx6 (d w : Nat) : 10 + 6 * nI d + nI w = nI (10 + (d * 6 + w)) := by rw [show (6 : Int32) = nI 6 from rfl, show (10 : Int32) = nI 10 from rfl, pk_mul, nI_add, nI_add, show 10 + 6 * d + w = 10 + (d * 6 + w) by omega]
theorem jx5 (d w : Nat) : 58 + 5 * nI d + nI w = nI (58 + (d * 5 + w)) := by rw [show (5 : Int32) = nI 5 from rfl, show (58 : Int32) = nI 58 from rfl, pk_mul, nI_add, nI_add, show 58 + 5 * d + w = 58 + (d * 5 + w) by omega]
theorem rem_nI {a b : Nat} (ha : a < 2 ^ 31) (h0 : 0 < b) (hb : b < 2 ^ 31) : nI a - nI a / nI b * nI b = nI (a % b) := pk_rem ha h0 hb
