/-! THE LAW, CALL BY CALL -/
def LG (X : Sc) (i pc : Nat) (h : Hp) : Prop := ∃ h' : Hp, Go X RL cL_law 4 14 pc [.ref 104, .ref 0, .ref 28, .int (nI i)] [] h (some (.int 1)) h'
theorem sx_1 (i : Nat) : nI i + 1 = nI (i + 1) := nI_add i 1
theorem sx_2 (i : Nat) : nI i + 2 = nI (i + 2) := nI_add i 2
theorem sx_3 (i : Nat) : nI i + 3 = nI (i + 3) := nI_add i 3
theorem sx_4 (i : Nat) : nI i + 4 = nI (i + 4) := nI_add i 4
theorem sx_5 (i : Nat) : nI i + 5 = nI (i + 5) := nI_add i 5
section LCMP
variable {X : Sc} {own : String} {cc : ByteArray} {nL d pc : Nat} {lv st : List Value} {h h' : Hp} {r : Option Value}
theorem g_lcmp {x y : Int64} (hd : decode cc pc = .ok (.lcmp, 1)) (k : Go X own cc nL d (pc + 1) lv (.int (lg_cmp x y) :: st) h r h') : Go X own cc nL d pc lv (.long y :: .long x :: st) h r h' :=
  fun ad D ca A p l e R s m args below meth c cells slots Q C F ls H locs hw hl => W.lcmp C.1 C.2.1 hd (k ad D ca A p l e R s m args below meth c cells slots Q C F ls H locs hw hl)
end LCMP
theorem exT {X : Sc} {y : MethodName} {cc : ByteArray} {nL d : Nat} {ret : Option FieldType} {as : List Value} {h : Hp} {v : Option Value} {F : Oc} {T : Rw} (a : Ct X y cc nL ret d as h v (hQ h F T)) : ∃ T, Ct X y cc nL ret d as h v (hQ h F T) := ⟨T, a⟩
theorem lg_same (x : Int64) : lg_cmp x x = 0 := (lg_cmp_eq x x).mpr rfl

set_option maxRecDepth 100000 in
set_option maxHeartbeats 4000000 in
theorem law_list {X : Sc} {i : Nat} {h : Hp} (hi : i + 6 ≤ X.2) (hX : X.2 < 2 ^ 31) (R : Rel h) (K : ∀ h2, Rel h2 → LG X i 1563 h2) : LG X i 216 h := by
  have hA := c_X3_list (X := X) (h := h) R.1 (i := X.1 (i + 1)) (gu := X.1 (i + 2)) (di := X.1 (i + 3))
  have hB := c_X4_list (X := X) (h := oC h (f_list (h 1) (X.1 (i + 1)) (X.1 (i + 2)) (X.1 (i + 3)))) (by rw [oC_g _ _ (by decide) (by decide), R.2.1]; exact R.1) (i := X.1 (i + 1)) (gu := X.1 (i + 2)) (di := X.1 (i + 3))
  rw [oC_g h _ (g := 11) (by decide) (by decide), R.2.1] at hB
  obtain ⟨h3, k⟩ := K _ (Rel_A R (F := (f_list (h 1) (X.1 (i + 1)) (X.1 (i + 2)) (X.1 (i + 3)))) (ok_list R.1))
  refine ⟨h3, ?_⟩
  refine g_aload_n dL_law_216 rfl ?_
  refine g_aload_n dL_law_217 rfl ?_
  refine g_iload_n dL_law_218 rfl ?_
  refine g_iconst dL_law_219 ic_1 ?_
  refine g_iadd dL_law_220 ?_
  refine g_sld (i + 1) dL_law_221 (sx_1 i) (by omega) hX ?_
  refine g_aload_n dL_law_222 rfl ?_
  refine g_iload_n dL_law_223 rfl ?_
  refine g_iconst dL_law_224 ic_2 ?_
  refine g_iadd dL_law_225 ?_
  refine g_sld (i + 2) dL_law_226 (sx_2 i) (by omega) hX ?_
  refine g_aload_n dL_law_227 rfl ?_
  refine g_iload_n dL_law_228 rfl ?_
  refine g_iconst dL_law_229 ic_3 ?_
  refine g_iadd dL_law_230 ?_
  refine g_sld (i + 3) dL_law_231 (sx_3 i) (by omega) hX ?_
  refine g_callV3i (hA) mi_X3_list mv_X3_list ml_L_13 dL_law_232 rfl rfl (by decide) (Nat.le_of_ble_eq_true rfl) (Nat.le_of_ble_eq_true rfl) ?_
  refine g_aload_n dL_law_235 rfl ?_
  refine g_aload_n dL_law_236 rfl ?_
  refine g_iload_n dL_law_237 rfl ?_
  refine g_iconst dL_law_238 ic_1 ?_
  refine g_iadd dL_law_239 ?_
  refine g_sld (i + 1) dL_law_240 (sx_1 i) (by omega) hX ?_
  refine g_aload_n dL_law_241 rfl ?_
  refine g_iload_n dL_law_242 rfl ?_
  refine g_iconst dL_law_243 ic_2 ?_
  refine g_iadd dL_law_244 ?_
  refine g_sld (i + 2) dL_law_245 (sx_2 i) (by omega) hX ?_
  refine g_aload_n dL_law_246 rfl ?_
  refine g_iload_n dL_law_247 rfl ?_
  refine g_iconst dL_law_248 ic_3 ?_
  refine g_iadd dL_law_249 ?_
  refine g_sld (i + 3) dL_law_250 (sx_3 i) (by omega) hX ?_
  refine g_callV3i (hB) mi_X4_list mv_X4_list ml_L_17 dL_law_251 rfl rfl (by decide) (Nat.le_of_ble_eq_true rfl) (Nat.le_of_ble_eq_true rfl) ?_
  refine g_icmp_eq 1563 dL_law_254 (by decide) (fun c254 => ?_) (fun c254 => ?_)
  · exact k
  · exact absurd rfl c254

set_option maxRecDepth 100000 in
set_option maxHeartbeats 4000000 in
theorem law_listed {X : Sc} {i : Nat} {h : Hp} (hi : i + 6 ≤ X.2) (hX : X.2 < 2 ^ 31) (R : Rel h) (K : ∀ h2, Rel h2 → LG X i 1563 h2) : LG X i 259 h := by
  have hA := c_X3_listed (X := X) (h := h) R.1 (i := X.1 (i + 1))
  have hB := c_X4_listed (X := X) (h := oC h (f_listed (h 1) (X.1 (i + 1)))) (by rw [oC_g _ _ (by decide) (by decide), R.2.1]; exact R.1) (i := X.1 (i + 1))
  rw [oC_g h _ (g := 11) (by decide) (by decide), R.2.1] at hB
  obtain ⟨h3, k⟩ := K _ (Rel_A R (F := (f_listed (h 1) (X.1 (i + 1)))) (ok_listed R.1))
  refine ⟨h3, ?_⟩
  refine g_aload_n dL_law_259 rfl ?_
  refine g_aload_n dL_law_260 rfl ?_
  refine g_iload_n dL_law_261 rfl ?_
  refine g_iconst dL_law_262 ic_1 ?_
  refine g_iadd dL_law_263 ?_
  refine g_sld (i + 1) dL_law_264 (sx_1 i) (by omega) hX ?_
  refine g_callV1i (hA) mi_X3_listed mv_X3_listed ml_L_18 dL_law_265 rfl rfl (by decide) (Nat.le_of_ble_eq_true rfl) (Nat.le_of_ble_eq_true rfl) ?_
  refine g_aload_n dL_law_268 rfl ?_
  refine g_aload_n dL_law_269 rfl ?_
  refine g_iload_n dL_law_270 rfl ?_
  refine g_iconst dL_law_271 ic_1 ?_
  refine g_iadd dL_law_272 ?_
  refine g_sld (i + 1) dL_law_273 (sx_1 i) (by omega) hX ?_
  refine g_callV1i (hB) mi_X4_listed mv_X4_listed ml_L_22 dL_law_274 rfl rfl (by decide) (Nat.le_of_ble_eq_true rfl) (Nat.le_of_ble_eq_true rfl) ?_
  refine g_icmp_eq 1563 dL_law_277 (by decide) (fun c277 => ?_) (fun c277 => ?_)
  · exact k
  · exact absurd rfl c277

set_option maxRecDepth 100000 in
set_option maxHeartbeats 4000000 in
theorem law_dish {X : Sc} {i : Nat} {h : Hp} (hi : i + 6 ≤ X.2) (hX : X.2 < 2 ^ 31) (R : Rel h) (K : ∀ h2, Rel h2 → LG X i 1563 h2) : LG X i 282 h := by
  have hA := c_X3_dish (X := X) (h := h) R.1 (k := X.1 (i + 1)) (a := X.1 (i + 2)) (b := X.1 (i + 3))
  have hB := c_X4_dish (X := X) (h := oC h (f_dish (h 1) (X.1 (i + 1)) (X.1 (i + 2)) (X.1 (i + 3)))) (by rw [oC_g _ _ (by decide) (by decide), R.2.1]; exact R.1) (k := X.1 (i + 1)) (a := X.1 (i + 2)) (b := X.1 (i + 3))
  rw [oC_g h _ (g := 11) (by decide) (by decide), R.2.1] at hB
  obtain ⟨h3, k⟩ := K _ (Rel_A R (F := (f_dish (h 1) (X.1 (i + 1)) (X.1 (i + 2)) (X.1 (i + 3)))) (ok_dish R.1))
  refine ⟨h3, ?_⟩
  refine g_aload_n dL_law_282 rfl ?_
  refine g_aload_n dL_law_283 rfl ?_
  refine g_iload_n dL_law_284 rfl ?_
  refine g_iconst dL_law_285 ic_1 ?_
  refine g_iadd dL_law_286 ?_
  refine g_sld (i + 1) dL_law_287 (sx_1 i) (by omega) hX ?_
  refine g_aload_n dL_law_288 rfl ?_
  refine g_iload_n dL_law_289 rfl ?_
  refine g_iconst dL_law_290 ic_2 ?_
  refine g_iadd dL_law_291 ?_
  refine g_sld (i + 2) dL_law_292 (sx_2 i) (by omega) hX ?_
  refine g_aload_n dL_law_293 rfl ?_
  refine g_iload_n dL_law_294 rfl ?_
  refine g_iconst dL_law_295 ic_3 ?_
  refine g_iadd dL_law_296 ?_
  refine g_sld (i + 3) dL_law_297 (sx_3 i) (by omega) hX ?_
  refine g_callV3i (hA) mi_X3_dish mv_X3_dish ml_L_23 dL_law_298 rfl rfl (by decide) (Nat.le_of_ble_eq_true rfl) (Nat.le_of_ble_eq_true rfl) ?_
  refine g_aload_n dL_law_301 rfl ?_
  refine g_aload_n dL_law_302 rfl ?_
  refine g_iload_n dL_law_303 rfl ?_
  refine g_iconst dL_law_304 ic_1 ?_
  refine g_iadd dL_law_305 ?_
  refine g_sld (i + 1) dL_law_306 (sx_1 i) (by omega) hX ?_
  refine g_aload_n dL_law_307 rfl ?_
  refine g_iload_n dL_law_308 rfl ?_
  refine g_iconst dL_law_309 ic_2 ?_
  refine g_iadd dL_law_310 ?_
  refine g_sld (i + 2) dL_law_311 (sx_2 i) (by omega) hX ?_
  refine g_aload_n dL_law_312 rfl ?_
  refine g_iload_n dL_law_313 rfl ?_
  refine g_iconst dL_law_314 ic_3 ?_
  refine g_iadd dL_law_315 ?_
  refine g_sld (i + 3) dL_law_316 (sx_3 i) (by omega) hX ?_
  refine g_callV3i (hB) mi_X4_dish mv_X4_dish ml_L_26 dL_law_317 rfl rfl (by decide) (Nat.le_of_ble_eq_true rfl) (Nat.le_of_ble_eq_true rfl) ?_
  refine g_icmp_eq 1563 dL_law_320 (by decide) (fun c320 => ?_) (fun c320 => ?_)
  · exact k
  · exact absurd rfl c320

set_option maxRecDepth 100000 in
set_option maxHeartbeats 4000000 in
theorem law_guest {X : Sc} {i : Nat} {h : Hp} (hi : i + 6 ≤ X.2) (hX : X.2 < 2 ^ 31) (R : Rel h) (K : ∀ h2, Rel h2 → LG X i 1563 h2) : LG X i 325 h := by
  have hA := c_X3_guest (X := X) (h := h) R.1 (b := X.1 (i + 1))
  have hB := c_X4_guest (X := X) (h := oC h (f_guest (h 1) (X.1 (i + 1)))) (by rw [oC_g _ _ (by decide) (by decide), R.2.1]; exact R.1) (b := X.1 (i + 1))
  rw [oC_g h _ (g := 11) (by decide) (by decide), R.2.1] at hB
  obtain ⟨h3, k⟩ := K _ (Rel_A R (F := (f_guest (h 1) (X.1 (i + 1)))) (ok_guest R.1))
  refine ⟨h3, ?_⟩
  refine g_aload_n dL_law_325 rfl ?_
  refine g_aload_n dL_law_326 rfl ?_
  refine g_iload_n dL_law_327 rfl ?_
  refine g_iconst dL_law_328 ic_1 ?_
  refine g_iadd dL_law_329 ?_
  refine g_sld (i + 1) dL_law_330 (sx_1 i) (by omega) hX ?_
  refine g_callV1i (hA) mi_X3_guest mv_X3_guest ml_L_27 dL_law_331 rfl rfl (by decide) (Nat.le_of_ble_eq_true rfl) (Nat.le_of_ble_eq_true rfl) ?_
  refine g_aload_n dL_law_334 rfl ?_
  refine g_aload_n dL_law_335 rfl ?_
  refine g_iload_n dL_law_336 rfl ?_
  refine g_iconst dL_law_337 ic_1 ?_
  refine g_iadd dL_law_338 ?_
  refine g_sld (i + 1) dL_law_339 (sx_1 i) (by omega) hX ?_
  refine g_callV1i (hB) mi_X4_guest mv_X4_guest ml_L_30 dL_law_340 rfl rfl (by decide) (Nat.le_of_ble_eq_true rfl) (Nat.le_of_ble_eq_true rfl) ?_
  refine g_icmp_eq 1563 dL_law_343 (by decide) (fun c343 => ?_) (fun c343 => ?_)
  · exact k
  · exact absurd rfl c343

set_option maxRecDepth 100000 in
set_option maxHeartbeats 4000000 in
theorem law_of {X : Sc} {i : Nat} {h : Hp} (hi : i + 6 ≤ X.2) (hX : X.2 < 2 ^ 31) (R : Rel h) (K : ∀ h2, Rel h2 → LG X i 1563 h2) : LG X i 348 h := by
  have hA := c_X3_of (X := X) (h := h) R.1 (d := X.1 (i + 1)) (k := X.1 (i + 2))
  have hB := c_X4_of (X := X) (h := oC h (f_of (h 1) (X.1 (i + 1)) (X.1 (i + 2)))) (by rw [oC_g _ _ (by decide) (by decide), R.2.1]; exact R.1) (d := X.1 (i + 1)) (k := X.1 (i + 2))
  rw [oC_g h _ (g := 11) (by decide) (by decide), R.2.1] at hB
  obtain ⟨h3, k⟩ := K _ (Rel_A R (F := (f_of (h 1) (X.1 (i + 1)) (X.1 (i + 2)))) (ok_of R.1))
  refine ⟨h3, ?_⟩
  refine g_aload_n dL_law_348 rfl ?_
  refine g_aload_n dL_law_349 rfl ?_
  refine g_iload_n dL_law_350 rfl ?_
  refine g_iconst dL_law_351 ic_1 ?_
  refine g_iadd dL_law_352 ?_
  refine g_sld (i + 1) dL_law_353 (sx_1 i) (by omega) hX ?_
  refine g_aload_n dL_law_354 rfl ?_
  refine g_iload_n dL_law_355 rfl ?_
  refine g_iconst dL_law_356 ic_2 ?_
  refine g_iadd dL_law_357 ?_
  refine g_sld (i + 2) dL_law_358 (sx_2 i) (by omega) hX ?_
  refine g_callV2i (hA) mi_X3_of mv_X3_of ml_L_31 dL_law_359 rfl rfl (by decide) (Nat.le_of_ble_eq_true rfl) (Nat.le_of_ble_eq_true rfl) ?_
  refine g_aload_n dL_law_362 rfl ?_
  refine g_aload_n dL_law_363 rfl ?_
  refine g_iload_n dL_law_364 rfl ?_
  refine g_iconst dL_law_365 ic_1 ?_
  refine g_iadd dL_law_366 ?_
  refine g_sld (i + 1) dL_law_367 (sx_1 i) (by omega) hX ?_
  refine g_aload_n dL_law_368 rfl ?_
  refine g_iload_n dL_law_369 rfl ?_
  refine g_iconst dL_law_370 ic_2 ?_
  refine g_iadd dL_law_371 ?_
  refine g_sld (i + 2) dL_law_372 (sx_2 i) (by omega) hX ?_
  refine g_callV2i (hB) mi_X4_of mv_X4_of ml_L_35 dL_law_373 rfl rfl (by decide) (Nat.le_of_ble_eq_true rfl) (Nat.le_of_ble_eq_true rfl) ?_
  refine g_icmp_eq 1563 dL_law_376 (by decide) (fun c376 => ?_) (fun c376 => ?_)
  · exact k
  · exact absurd rfl c376

set_option maxRecDepth 100000 in
set_option maxHeartbeats 4000000 in
theorem law_change {X : Sc} {i : Nat} {h : Hp} (hi : i + 6 ≤ X.2) (hX : X.2 < 2 ^ 31) (R : Rel h) (K : ∀ h2, Rel h2 → LG X i 1563 h2) : LG X i 381 h := by
  have hA := c_X3_change (X := X) (h := h) R.1 (d := X.1 (i + 1)) (k := X.1 (i + 2)) (v := X.1 (i + 3))
  have hB := c_X4_change (X := X) (h := oC h (f_change (h 1) (X.1 (i + 1)) (X.1 (i + 2)) (X.1 (i + 3)))) (by rw [oC_g _ _ (by decide) (by decide), R.2.1]; exact R.1) (d := X.1 (i + 1)) (k := X.1 (i + 2)) (v := X.1 (i + 3))
  rw [oC_g h _ (g := 11) (by decide) (by decide), R.2.1] at hB
  obtain ⟨h3, k⟩ := K _ (Rel_A R (F := (f_change (h 1) (X.1 (i + 1)) (X.1 (i + 2)) (X.1 (i + 3)))) (ok_change R.1))
  refine ⟨h3, ?_⟩
  refine g_aload_n dL_law_381 rfl ?_
  refine g_aload_n dL_law_382 rfl ?_
  refine g_iload_n dL_law_383 rfl ?_
  refine g_iconst dL_law_384 ic_1 ?_
  refine g_iadd dL_law_385 ?_
  refine g_sld (i + 1) dL_law_386 (sx_1 i) (by omega) hX ?_
  refine g_aload_n dL_law_387 rfl ?_
  refine g_iload_n dL_law_388 rfl ?_
  refine g_iconst dL_law_389 ic_2 ?_
  refine g_iadd dL_law_390 ?_
  refine g_sld (i + 2) dL_law_391 (sx_2 i) (by omega) hX ?_
  refine g_aload_n dL_law_392 rfl ?_
  refine g_iload_n dL_law_393 rfl ?_
  refine g_iconst dL_law_394 ic_3 ?_
  refine g_iadd dL_law_395 ?_
  refine g_sld (i + 3) dL_law_396 (sx_3 i) (by omega) hX ?_
  refine g_callV3i (hA) mi_X3_change mv_X3_change ml_L_36 dL_law_397 rfl rfl (by decide) (Nat.le_of_ble_eq_true rfl) (Nat.le_of_ble_eq_true rfl) ?_
  refine g_aload_n dL_law_400 rfl ?_
  refine g_aload_n dL_law_401 rfl ?_
  refine g_iload_n dL_law_402 rfl ?_
  refine g_iconst dL_law_403 ic_1 ?_
  refine g_iadd dL_law_404 ?_
  refine g_sld (i + 1) dL_law_405 (sx_1 i) (by omega) hX ?_
  refine g_aload_n dL_law_406 rfl ?_
  refine g_iload_n dL_law_407 rfl ?_
  refine g_iconst dL_law_408 ic_2 ?_
  refine g_iadd dL_law_409 ?_
  refine g_sld (i + 2) dL_law_410 (sx_2 i) (by omega) hX ?_
  refine g_aload_n dL_law_411 rfl ?_
  refine g_iload_n dL_law_412 rfl ?_
  refine g_iconst dL_law_413 ic_3 ?_
  refine g_iadd dL_law_414 ?_
  refine g_sld (i + 3) dL_law_415 (sx_3 i) (by omega) hX ?_
  refine g_callV3i (hB) mi_X4_change mv_X4_change ml_L_39 dL_law_416 rfl rfl (by decide) (Nat.le_of_ble_eq_true rfl) (Nat.le_of_ble_eq_true rfl) ?_
  refine g_icmp_eq 1563 dL_law_419 (by decide) (fun c419 => ?_) (fun c419 => ?_)
  · exact k
  · exact absurd rfl c419

set_option maxRecDepth 100000 in
set_option maxHeartbeats 4000000 in
theorem law_ofGuest {X : Sc} {i : Nat} {h : Hp} (hi : i + 6 ≤ X.2) (hX : X.2 < 2 ^ 31) (R : Rel h) (K : ∀ h2, Rel h2 → LG X i 1563 h2) : LG X i 424 h := by
  have hA := c_X3_ofGuest (X := X) (h := h) R.1 (d := X.1 (i + 1)) (k := X.1 (i + 2))
  have hB := c_X4_ofGuest (X := X) (h := oC h (f_ofGuest (h 1) (X.1 (i + 1)) (X.1 (i + 2)))) (by rw [oC_g _ _ (by decide) (by decide), R.2.1]; exact R.1) (d := X.1 (i + 1)) (k := X.1 (i + 2))
  rw [oC_g h _ (g := 11) (by decide) (by decide), R.2.1] at hB
  obtain ⟨h3, k⟩ := K _ (Rel_A R (F := (f_ofGuest (h 1) (X.1 (i + 1)) (X.1 (i + 2)))) (ok_ofGuest R.1))
  refine ⟨h3, ?_⟩
  refine g_aload_n dL_law_424 rfl ?_
  refine g_aload_n dL_law_425 rfl ?_
  refine g_iload_n dL_law_426 rfl ?_
  refine g_iconst dL_law_427 ic_1 ?_
  refine g_iadd dL_law_428 ?_
  refine g_sld (i + 1) dL_law_429 (sx_1 i) (by omega) hX ?_
  refine g_aload_n dL_law_430 rfl ?_
  refine g_iload_n dL_law_431 rfl ?_
  refine g_iconst dL_law_432 ic_2 ?_
  refine g_iadd dL_law_433 ?_
  refine g_sld (i + 2) dL_law_434 (sx_2 i) (by omega) hX ?_
  refine g_callV2i (hA) mi_X3_ofGuest mv_X3_ofGuest ml_L_40 dL_law_435 rfl rfl (by decide) (Nat.le_of_ble_eq_true rfl) (Nat.le_of_ble_eq_true rfl) ?_
  refine g_aload_n dL_law_438 rfl ?_
  refine g_aload_n dL_law_439 rfl ?_
  refine g_iload_n dL_law_440 rfl ?_
  refine g_iconst dL_law_441 ic_1 ?_
  refine g_iadd dL_law_442 ?_
  refine g_sld (i + 1) dL_law_443 (sx_1 i) (by omega) hX ?_
  refine g_aload_n dL_law_444 rfl ?_
  refine g_iload_n dL_law_445 rfl ?_
  refine g_iconst dL_law_446 ic_2 ?_
  refine g_iadd dL_law_447 ?_
  refine g_sld (i + 2) dL_law_448 (sx_2 i) (by omega) hX ?_
  refine g_callV2i (hB) mi_X4_ofGuest mv_X4_ofGuest ml_L_43 dL_law_449 rfl rfl (by decide) (Nat.le_of_ble_eq_true rfl) (Nat.le_of_ble_eq_true rfl) ?_
  refine g_icmp_eq 1563 dL_law_452 (by decide) (fun c452 => ?_) (fun c452 => ?_)
  · exact k
  · exact absurd rfl c452

set_option maxRecDepth 100000 in
set_option maxHeartbeats 4000000 in
theorem law_seat {X : Sc} {i : Nat} {h : Hp} (hi : i + 6 ≤ X.2) (hX : X.2 < 2 ^ 31) (R : Rel h) (K : ∀ h2, Rel h2 → LG X i 1563 h2) : LG X i 457 h := by
  have hA := c_X3_seat (X := X) (h := h) R.1 (d := X.1 (i + 1)) (k := X.1 (i + 2)) (v := X.1 (i + 3))
  have hB := c_X4_seat (X := X) (h := oC h (f_seat (h 1) (X.1 (i + 1)) (X.1 (i + 2)) (X.1 (i + 3)))) (by rw [oC_g _ _ (by decide) (by decide), R.2.1]; exact R.1) (d := X.1 (i + 1)) (k := X.1 (i + 2)) (v := X.1 (i + 3))
  rw [oC_g h _ (g := 11) (by decide) (by decide), R.2.1] at hB
  obtain ⟨h3, k⟩ := K _ (Rel_A R (F := (f_seat (h 1) (X.1 (i + 1)) (X.1 (i + 2)) (X.1 (i + 3)))) (ok_seat R.1))
  refine ⟨h3, ?_⟩
  refine g_aload_n dL_law_457 rfl ?_
  refine g_aload_n dL_law_458 rfl ?_
  refine g_iload_n dL_law_459 rfl ?_
  refine g_iconst dL_law_460 ic_1 ?_
  refine g_iadd dL_law_461 ?_
  refine g_sld (i + 1) dL_law_462 (sx_1 i) (by omega) hX ?_
  refine g_aload_n dL_law_463 rfl ?_
  refine g_iload_n dL_law_464 rfl ?_
  refine g_iconst dL_law_465 ic_2 ?_
  refine g_iadd dL_law_466 ?_
  refine g_sld (i + 2) dL_law_467 (sx_2 i) (by omega) hX ?_
  refine g_aload_n dL_law_468 rfl ?_
  refine g_iload_n dL_law_469 rfl ?_
  refine g_iconst dL_law_470 ic_3 ?_
  refine g_iadd dL_law_471 ?_
  refine g_sld (i + 3) dL_law_472 (sx_3 i) (by omega) hX ?_
  refine g_callV3i (hA) mi_X3_seat mv_X3_seat ml_L_44 dL_law_473 rfl rfl (by decide) (Nat.le_of_ble_eq_true rfl) (Nat.le_of_ble_eq_true rfl) ?_
  refine g_aload_n dL_law_476 rfl ?_
  refine g_aload_n dL_law_477 rfl ?_
  refine g_iload_n dL_law_478 rfl ?_
  refine g_iconst dL_law_479 ic_1 ?_
  refine g_iadd dL_law_480 ?_
  refine g_sld (i + 1) dL_law_481 (sx_1 i) (by omega) hX ?_
  refine g_aload_n dL_law_482 rfl ?_
  refine g_iload_n dL_law_483 rfl ?_
  refine g_iconst dL_law_484 ic_2 ?_
  refine g_iadd dL_law_485 ?_
  refine g_sld (i + 2) dL_law_486 (sx_2 i) (by omega) hX ?_
  refine g_aload_n dL_law_487 rfl ?_
  refine g_iload_n dL_law_488 rfl ?_
  refine g_iconst dL_law_489 ic_3 ?_
  refine g_iadd dL_law_490 ?_
  refine g_sld (i + 3) dL_law_491 (sx_3 i) (by omega) hX ?_
  refine g_callV3i (hB) mi_X4_seat mv_X4_seat ml_L_47 dL_law_492 rfl rfl (by decide) (Nat.le_of_ble_eq_true rfl) (Nat.le_of_ble_eq_true rfl) ?_
  refine g_icmp_eq 1563 dL_law_495 (by decide) (fun c495 => ?_) (fun c495 => ?_)
  · exact k
  · exact absurd rfl c495

set_option maxRecDepth 100000 in
set_option maxHeartbeats 4000000 in
theorem law_would {X : Sc} {i : Nat} {h : Hp} (hi : i + 6 ≤ X.2) (hX : X.2 < 2 ^ 31) (R : Rel h) (K : ∀ h2, Rel h2 → LG X i 1563 h2) : LG X i 500 h := by
  have hA := c_X3_would (X := X) (h := h) R.1 (g := X.1 (i + 1)) (d := X.1 (i + 2)) (k := X.1 (i + 3))
  have hB := c_X4_would (X := X) (h := oC h (f_would (h 1) (X.1 (i + 1)) (X.1 (i + 2)) (X.1 (i + 3)))) (by rw [oC_g _ _ (by decide) (by decide), R.2.1]; exact R.1) (g := X.1 (i + 1)) (d := X.1 (i + 2)) (k := X.1 (i + 3))
  rw [oC_g h _ (g := 11) (by decide) (by decide), R.2.1] at hB
  obtain ⟨h3, k⟩ := K _ (Rel_A R (F := (f_would (h 1) (X.1 (i + 1)) (X.1 (i + 2)) (X.1 (i + 3)))) (ok_would R.1))
  refine ⟨h3, ?_⟩
  refine g_aload_n dL_law_500 rfl ?_
  refine g_aload_n dL_law_501 rfl ?_
  refine g_iload_n dL_law_502 rfl ?_
  refine g_iconst dL_law_503 ic_1 ?_
  refine g_iadd dL_law_504 ?_
  refine g_sld (i + 1) dL_law_505 (sx_1 i) (by omega) hX ?_
  refine g_aload_n dL_law_506 rfl ?_
  refine g_iload_n dL_law_507 rfl ?_
  refine g_iconst dL_law_508 ic_2 ?_
  refine g_iadd dL_law_509 ?_
  refine g_sld (i + 2) dL_law_510 (sx_2 i) (by omega) hX ?_
  refine g_aload_n dL_law_511 rfl ?_
  refine g_iload_n dL_law_512 rfl ?_
  refine g_iconst dL_law_513 ic_3 ?_
  refine g_iadd dL_law_514 ?_
  refine g_sld (i + 3) dL_law_515 (sx_3 i) (by omega) hX ?_
  refine g_callV3i (hA) mi_X3_would mv_X3_would ml_L_48 dL_law_516 rfl rfl (by decide) (Nat.le_of_ble_eq_true rfl) (Nat.le_of_ble_eq_true rfl) ?_
  refine g_aload_n dL_law_519 rfl ?_
  refine g_aload_n dL_law_520 rfl ?_
  refine g_iload_n dL_law_521 rfl ?_
  refine g_iconst dL_law_522 ic_1 ?_
  refine g_iadd dL_law_523 ?_
  refine g_sld (i + 1) dL_law_524 (sx_1 i) (by omega) hX ?_
  refine g_aload_n dL_law_525 rfl ?_
  refine g_iload_n dL_law_526 rfl ?_
  refine g_iconst dL_law_527 ic_2 ?_
  refine g_iadd dL_law_528 ?_
  refine g_sld (i + 2) dL_law_529 (sx_2 i) (by omega) hX ?_
  refine g_aload_n dL_law_530 rfl ?_
  refine g_iload_n dL_law_531 rfl ?_
  refine g_iconst dL_law_532 ic_3 ?_
  refine g_iadd dL_law_533 ?_
  refine g_sld (i + 3) dL_law_534 (sx_3 i) (by omega) hX ?_
  refine g_callV3i (hB) mi_X4_would mv_X4_would ml_L_51 dL_law_535 rfl rfl (by decide) (Nat.le_of_ble_eq_true rfl) (Nat.le_of_ble_eq_true rfl) ?_
  refine g_icmp_eq 1563 dL_law_538 (by decide) (fun c538 => ?_) (fun c538 => ?_)
  · exact k
  · exact absurd rfl c538

set_option maxRecDepth 100000 in
set_option maxHeartbeats 4000000 in
theorem law_eat {X : Sc} {i : Nat} {h : Hp} (hi : i + 6 ≤ X.2) (hX : X.2 < 2 ^ 31) (R : Rel h) (K : ∀ h2, Rel h2 → LG X i 1563 h2) : LG X i 543 h := by
  have hA := c_X3_eat (X := X) (h := h) R.1 (g := X.1 (i + 1)) (d := X.1 (i + 2))
  have hB := c_X4_eat (X := X) (h := oC h (f_eat (h 1) (X.1 (i + 1)) (X.1 (i + 2)))) (by rw [oC_g _ _ (by decide) (by decide), R.2.1]; exact R.1) (g := X.1 (i + 1)) (d := X.1 (i + 2))
  rw [oC_g h _ (g := 11) (by decide) (by decide), R.2.1] at hB
  obtain ⟨h3, k⟩ := K _ (Rel_A R (F := (f_eat (h 1) (X.1 (i + 1)) (X.1 (i + 2)))) (ok_eat R.1))
  refine ⟨h3, ?_⟩
  refine g_aload_n dL_law_543 rfl ?_
  refine g_aload_n dL_law_544 rfl ?_
  refine g_iload_n dL_law_545 rfl ?_
  refine g_iconst dL_law_546 ic_1 ?_
  refine g_iadd dL_law_547 ?_
  refine g_sld (i + 1) dL_law_548 (sx_1 i) (by omega) hX ?_
  refine g_aload_n dL_law_549 rfl ?_
  refine g_iload_n dL_law_550 rfl ?_
  refine g_iconst dL_law_551 ic_2 ?_
  refine g_iadd dL_law_552 ?_
  refine g_sld (i + 2) dL_law_553 (sx_2 i) (by omega) hX ?_
  refine g_callV2i (hA) mi_X3_eat mv_X3_eat ml_L_52 dL_law_554 rfl rfl (by decide) (Nat.le_of_ble_eq_true rfl) (Nat.le_of_ble_eq_true rfl) ?_
  refine g_aload_n dL_law_557 rfl ?_
  refine g_aload_n dL_law_558 rfl ?_
  refine g_iload_n dL_law_559 rfl ?_
  refine g_iconst dL_law_560 ic_1 ?_
  refine g_iadd dL_law_561 ?_
  refine g_sld (i + 1) dL_law_562 (sx_1 i) (by omega) hX ?_
  refine g_aload_n dL_law_563 rfl ?_
  refine g_iload_n dL_law_564 rfl ?_
  refine g_iconst dL_law_565 ic_2 ?_
  refine g_iadd dL_law_566 ?_
  refine g_sld (i + 2) dL_law_567 (sx_2 i) (by omega) hX ?_
  refine g_callV2i (hB) mi_X4_eat mv_X4_eat ml_L_55 dL_law_568 rfl rfl (by decide) (Nat.le_of_ble_eq_true rfl) (Nat.le_of_ble_eq_true rfl) ?_
  refine g_icmp_eq 1563 dL_law_571 (by decide) (fun c571 => ?_) (fun c571 => ?_)
  · exact k
  · exact absurd rfl c571

set_option maxRecDepth 100000 in
set_option maxHeartbeats 4000000 in
theorem law_go {X : Sc} {i : Nat} {h : Hp} (hi : i + 6 ≤ X.2) (hX : X.2 < 2 ^ 31) (R : Rel h) (K : ∀ h2, Rel h2 → LG X i 1563 h2) : LG X i 576 h := by
  have hA := c_X3_go (X := X) (h := h) R.1 (n := X.1 (i + 1))
  have hB := c_X4_go (X := X) (h := oC h (f_go (h 1) (X.1 (i + 1)))) (by rw [oC_g _ _ (by decide) (by decide), R.2.1]; exact R.1) (n := X.1 (i + 1))
  rw [oC_g h _ (g := 11) (by decide) (by decide), R.2.1] at hB
  obtain ⟨h3, k⟩ := K _ (Rel_A R (F := (f_go (h 1) (X.1 (i + 1)))) (ok_go R.1))
  refine ⟨h3, ?_⟩
  refine g_aload_n dL_law_576 rfl ?_
  refine g_aload_n dL_law_577 rfl ?_
  refine g_iload_n dL_law_578 rfl ?_
  refine g_iconst dL_law_579 ic_1 ?_
  refine g_iadd dL_law_580 ?_
  refine g_sld (i + 1) dL_law_581 (sx_1 i) (by omega) hX ?_
  refine g_callV1i (hA) mi_X3_go mv_X3_go ml_L_56 dL_law_582 rfl rfl (by decide) (Nat.le_of_ble_eq_true rfl) (Nat.le_of_ble_eq_true rfl) ?_
  refine g_aload_n dL_law_585 rfl ?_
  refine g_aload_n dL_law_586 rfl ?_
  refine g_iload_n dL_law_587 rfl ?_
  refine g_iconst dL_law_588 ic_1 ?_
  refine g_iadd dL_law_589 ?_
  refine g_sld (i + 1) dL_law_590 (sx_1 i) (by omega) hX ?_
  refine g_callV1i (hB) mi_X4_go mv_X4_go ml_L_59 dL_law_591 rfl rfl (by decide) (Nat.le_of_ble_eq_true rfl) (Nat.le_of_ble_eq_true rfl) ?_
  refine g_icmp_eq 1563 dL_law_594 (by decide) (fun c594 => ?_) (fun c594 => ?_)
  · exact k
  · exact absurd rfl c594

set_option maxRecDepth 100000 in
set_option maxHeartbeats 4000000 in
theorem law_now {X : Sc} {i : Nat} {h : Hp} (hi : i + 6 ≤ X.2) (hX : X.2 < 2 ^ 31) (R : Rel h) (K : ∀ h2, Rel h2 → LG X i 1563 h2) : LG X i 599 h := by
  have hA := c_X3_now (X := X) (h := h) R.1 (k := X.1 (i + 1))
  have hB := c_X4_now (X := X) (h := oC h (f_now (h 1) (X.1 (i + 1)))) (by rw [oC_g _ _ (by decide) (by decide), R.2.1]; exact R.1) (k := X.1 (i + 1))
  rw [oC_g h _ (g := 11) (by decide) (by decide), R.2.1] at hB
  obtain ⟨h3, k⟩ := K _ (Rel_A R (F := (f_now (h 1) (X.1 (i + 1)))) (ok_now R.1))
  refine ⟨h3, ?_⟩
  refine g_aload_n dL_law_599 rfl ?_
  refine g_aload_n dL_law_600 rfl ?_
  refine g_iload_n dL_law_601 rfl ?_
  refine g_iconst dL_law_602 ic_1 ?_
  refine g_iadd dL_law_603 ?_
  refine g_sld (i + 1) dL_law_604 (sx_1 i) (by omega) hX ?_
  refine g_callV1i (hA) mi_X3_now mv_X3_now ml_L_60 dL_law_605 rfl rfl (by decide) (Nat.le_of_ble_eq_true rfl) (Nat.le_of_ble_eq_true rfl) ?_
  refine g_aload_n dL_law_608 rfl ?_
  refine g_aload_n dL_law_609 rfl ?_
  refine g_iload_n dL_law_610 rfl ?_
  refine g_iconst dL_law_611 ic_1 ?_
  refine g_iadd dL_law_612 ?_
  refine g_sld (i + 1) dL_law_613 (sx_1 i) (by omega) hX ?_
  refine g_callV1i (hB) mi_X4_now mv_X4_now ml_L_63 dL_law_614 rfl rfl (by decide) (Nat.le_of_ble_eq_true rfl) (Nat.le_of_ble_eq_true rfl) ?_
  refine g_icmp_eq 1563 dL_law_617 (by decide) (fun c617 => ?_) (fun c617 => ?_)
  · exact k
  · exact absurd rfl c617

set_option maxRecDepth 100000 in
set_option maxHeartbeats 4000000 in
theorem law_ahead {X : Sc} {i : Nat} {h : Hp} (hi : i + 6 ≤ X.2) (hX : X.2 < 2 ^ 31) (R : Rel h) (K : ∀ h2, Rel h2 → LG X i 1563 h2) : LG X i 622 h := by
  obtain ⟨T, hA⟩ := exT (c_X3_ahead (X := X) (h := h) R.1  (g := X.1 (i + 1)) (k := X.1 (i + 2)) (n := X.1 (i + 3)))
  have e1 := fun T => hQ_g h (f_ahead (h 1) (X.1 (i + 1)) (X.1 (i + 2)) (X.1 (i + 3))) T (g := 11) (by decide) (by decide) (by decide)
  have hB := fun T => c_X4_ahead (X := X) (h := hQ h (f_ahead (h 1) (X.1 (i + 1)) (X.1 (i + 2)) (X.1 (i + 3))) T) (by rw [hQ_g _ _ _ (by decide) (by decide) (by decide), R.2.1]; exact R.1)  (g := X.1 (i + 1)) (k := X.1 (i + 2)) (n := X.1 (i + 3))
  simp only [e1, R.2.1] at hB
  obtain ⟨h3, k⟩ := K _ (Rel_B R (F := (f_ahead (h 1) (X.1 (i + 1)) (X.1 (i + 2)) (X.1 (i + 3)))) T (ok_ahead R.1))
  refine ⟨h3, ?_⟩
  refine g_aload_n dL_law_622 rfl ?_
  refine g_aload_n dL_law_623 rfl ?_
  refine g_iload_n dL_law_624 rfl ?_
  refine g_iconst dL_law_625 ic_1 ?_
  refine g_iadd dL_law_626 ?_
  refine g_sld (i + 1) dL_law_627 (sx_1 i) (by omega) hX ?_
  refine g_aload_n dL_law_628 rfl ?_
  refine g_iload_n dL_law_629 rfl ?_
  refine g_iconst dL_law_630 ic_2 ?_
  refine g_iadd dL_law_631 ?_
  refine g_sld (i + 2) dL_law_632 (sx_2 i) (by omega) hX ?_
  refine g_aload_n dL_law_633 rfl ?_
  refine g_iload_n dL_law_634 rfl ?_
  refine g_iconst dL_law_635 ic_3 ?_
  refine g_iadd dL_law_636 ?_
  refine g_sld (i + 3) dL_law_637 (sx_3 i) (by omega) hX ?_
  refine g_callV3i (hA) mi_X3_ahead mv_X3_ahead ml_L_64 dL_law_638 rfl rfl (by decide) (Nat.le_of_ble_eq_true rfl) (Nat.le_of_ble_eq_true rfl) ?_
  refine g_aload_n dL_law_641 rfl ?_
  refine g_aload_n dL_law_642 rfl ?_
  refine g_iload_n dL_law_643 rfl ?_
  refine g_iconst dL_law_644 ic_1 ?_
  refine g_iadd dL_law_645 ?_
  refine g_sld (i + 1) dL_law_646 (sx_1 i) (by omega) hX ?_
  refine g_aload_n dL_law_647 rfl ?_
  refine g_iload_n dL_law_648 rfl ?_
  refine g_iconst dL_law_649 ic_2 ?_
  refine g_iadd dL_law_650 ?_
  refine g_sld (i + 2) dL_law_651 (sx_2 i) (by omega) hX ?_
  refine g_aload_n dL_law_652 rfl ?_
  refine g_iload_n dL_law_653 rfl ?_
  refine g_iconst dL_law_654 ic_3 ?_
  refine g_iadd dL_law_655 ?_
  refine g_sld (i + 3) dL_law_656 (sx_3 i) (by omega) hX ?_
  refine g_callV3i (hB T) mi_X4_ahead mv_X4_ahead ml_L_67 dL_law_657 rfl rfl (by decide) (Nat.le_of_ble_eq_true rfl) (Nat.le_of_ble_eq_true rfl) ?_
  refine g_icmp_eq 1563 dL_law_660 (by decide) (fun c660 => ?_) (fun c660 => ?_)
  · exact k
  · exact absurd rfl c660

set_option maxRecDepth 100000 in
set_option maxHeartbeats 4000000 in
theorem law_served {X : Sc} {i : Nat} {h : Hp} (hi : i + 6 ≤ X.2) (hX : X.2 < 2 ^ 31) (R : Rel h) (K : ∀ h2, Rel h2 → LG X i 1563 h2) : LG X i 665 h := by
  obtain ⟨T, hA⟩ := exT (c_X3_served (X := X) (h := h) R.1  (d := X.1 (i + 1)) (n := X.1 (i + 2)))
  have e1 := fun T => hQ_g h (f_served (h 1) (X.1 (i + 1)) (X.1 (i + 2))) T (g := 11) (by decide) (by decide) (by decide)
  have hB := fun T => c_X4_served (X := X) (h := hQ h (f_served (h 1) (X.1 (i + 1)) (X.1 (i + 2))) T) (by rw [hQ_g _ _ _ (by decide) (by decide) (by decide), R.2.1]; exact R.1)  (d := X.1 (i + 1)) (n := X.1 (i + 2))
  simp only [e1, R.2.1] at hB
  obtain ⟨h3, k⟩ := K _ (Rel_B R (F := (f_served (h 1) (X.1 (i + 1)) (X.1 (i + 2)))) T (ok_served R.1))
  refine ⟨h3, ?_⟩
  refine g_aload_n dL_law_665 rfl ?_
  refine g_aload_n dL_law_666 rfl ?_
  refine g_iload_n dL_law_667 rfl ?_
  refine g_iconst dL_law_668 ic_1 ?_
  refine g_iadd dL_law_669 ?_
  refine g_sld (i + 1) dL_law_670 (sx_1 i) (by omega) hX ?_
  refine g_aload_n dL_law_671 rfl ?_
  refine g_iload_n dL_law_672 rfl ?_
  refine g_iconst dL_law_673 ic_2 ?_
  refine g_iadd dL_law_674 ?_
  refine g_sld (i + 2) dL_law_675 (sx_2 i) (by omega) hX ?_
  refine g_callV2i (hA) mi_X3_served mv_X3_served ml_L_68 dL_law_676 rfl rfl (by decide) (Nat.le_of_ble_eq_true rfl) (Nat.le_of_ble_eq_true rfl) ?_
  refine g_aload_n dL_law_679 rfl ?_
  refine g_aload_n dL_law_680 rfl ?_
  refine g_iload_n dL_law_681 rfl ?_
  refine g_iconst dL_law_682 ic_1 ?_
  refine g_iadd dL_law_683 ?_
  refine g_sld (i + 1) dL_law_684 (sx_1 i) (by omega) hX ?_
  refine g_aload_n dL_law_685 rfl ?_
  refine g_iload_n dL_law_686 rfl ?_
  refine g_iconst dL_law_687 ic_2 ?_
  refine g_iadd dL_law_688 ?_
  refine g_sld (i + 2) dL_law_689 (sx_2 i) (by omega) hX ?_
  refine g_callV2i (hB T) mi_X4_served mv_X4_served ml_L_71 dL_law_690 rfl rfl (by decide) (Nat.le_of_ble_eq_true rfl) (Nat.le_of_ble_eq_true rfl) ?_
  refine g_icmp_eq 1563 dL_law_693 (by decide) (fun c693 => ?_) (fun c693 => ?_)
  · exact k
  · exact absurd rfl c693

set_option maxRecDepth 100000 in
set_option maxHeartbeats 4000000 in
theorem law_when {X : Sc} {i : Nat} {h : Hp} (hi : i + 6 ≤ X.2) (hX : X.2 < 2 ^ 31) (R : Rel h) (K : ∀ h2, Rel h2 → LG X i 1563 h2) : LG X i 698 h := by
  obtain ⟨T, hA⟩ := exT (c_X3_when (X := X) (h := h) R.1  (g := X.1 (i + 1)) (t := X.1 (i + 2)))
  have e1 := fun T => hQ_g h (f_when (h 1) (X.1 (i + 1)) (X.1 (i + 2))) T (g := 11) (by decide) (by decide) (by decide)
  have hB := fun T => c_X4_when (X := X) (h := hQ h (f_when (h 1) (X.1 (i + 1)) (X.1 (i + 2))) T) (by rw [hQ_g _ _ _ (by decide) (by decide) (by decide), R.2.1]; exact R.1)  (g := X.1 (i + 1)) (t := X.1 (i + 2))
  simp only [e1, R.2.1] at hB
  obtain ⟨h3, k⟩ := K _ (Rel_B R (F := (f_when (h 1) (X.1 (i + 1)) (X.1 (i + 2)))) T (ok_when R.1))
  refine ⟨h3, ?_⟩
  refine g_aload_n dL_law_698 rfl ?_
  refine g_aload_n dL_law_699 rfl ?_
  refine g_iload_n dL_law_700 rfl ?_
  refine g_iconst dL_law_701 ic_1 ?_
  refine g_iadd dL_law_702 ?_
  refine g_sld (i + 1) dL_law_703 (sx_1 i) (by omega) hX ?_
  refine g_aload_n dL_law_704 rfl ?_
  refine g_iload_n dL_law_705 rfl ?_
  refine g_iconst dL_law_706 ic_2 ?_
  refine g_iadd dL_law_707 ?_
  refine g_sld (i + 2) dL_law_708 (sx_2 i) (by omega) hX ?_
  refine g_callV2i (hA) mi_X3_when mv_X3_when ml_L_72 dL_law_709 rfl rfl (by decide) (Nat.le_of_ble_eq_true rfl) (Nat.le_of_ble_eq_true rfl) ?_
  refine g_aload_n dL_law_712 rfl ?_
  refine g_aload_n dL_law_713 rfl ?_
  refine g_iload_n dL_law_714 rfl ?_
  refine g_iconst dL_law_715 ic_1 ?_
  refine g_iadd dL_law_716 ?_
  refine g_sld (i + 1) dL_law_717 (sx_1 i) (by omega) hX ?_
  refine g_aload_n dL_law_718 rfl ?_
  refine g_iload_n dL_law_719 rfl ?_
  refine g_iconst dL_law_720 ic_2 ?_
  refine g_iadd dL_law_721 ?_
  refine g_sld (i + 2) dL_law_722 (sx_2 i) (by omega) hX ?_
  refine g_callV2i (hB T) mi_X4_when mv_X4_when ml_L_75 dL_law_723 rfl rfl (by decide) (Nat.le_of_ble_eq_true rfl) (Nat.le_of_ble_eq_true rfl) ?_
  refine g_icmp_eq 1563 dL_law_726 (by decide) (fun c726 => ?_) (fun c726 => ?_)
  · exact k
  · exact absurd rfl c726

set_option maxRecDepth 100000 in
set_option maxHeartbeats 4000000 in
theorem law_owes {X : Sc} {i : Nat} {h : Hp} (hi : i + 6 ≤ X.2) (hX : X.2 < 2 ^ 31) (R : Rel h) (K : ∀ h2, Rel h2 → LG X i 1563 h2) : LG X i 731 h := by
  obtain ⟨T, hA⟩ := exT (c_X3_owes (X := X) (h := h) R.1  (g := X.1 (i + 1)) (v := X.1 (i + 2)))
  have e1 := fun T => hQ_g h (f_owes (h 1) (X.1 (i + 1)) (X.1 (i + 2))) T (g := 11) (by decide) (by decide) (by decide)
  have hB := fun T => c_X4_owes (X := X) (h := hQ h (f_owes (h 1) (X.1 (i + 1)) (X.1 (i + 2))) T) (by rw [hQ_g _ _ _ (by decide) (by decide) (by decide), R.2.1]; exact R.1)  (g := X.1 (i + 1)) (v := X.1 (i + 2))
  simp only [e1, R.2.1] at hB
  obtain ⟨h3, k⟩ := K _ (Rel_B R (F := (f_owes (h 1) (X.1 (i + 1)) (X.1 (i + 2)))) T (ok_owes R.1))
  refine ⟨h3, ?_⟩
  refine g_aload_n dL_law_731 rfl ?_
  refine g_aload_n dL_law_732 rfl ?_
  refine g_iload_n dL_law_733 rfl ?_
  refine g_iconst dL_law_734 ic_1 ?_
  refine g_iadd dL_law_735 ?_
  refine g_sld (i + 1) dL_law_736 (sx_1 i) (by omega) hX ?_
  refine g_aload_n dL_law_737 rfl ?_
  refine g_iload_n dL_law_738 rfl ?_
  refine g_iconst dL_law_739 ic_2 ?_
  refine g_iadd dL_law_740 ?_
  refine g_sld (i + 2) dL_law_741 (sx_2 i) (by omega) hX ?_
  refine g_callV2i (hA) mi_X3_owes mv_X3_owes ml_L_76 dL_law_742 rfl rfl (by decide) (Nat.le_of_ble_eq_true rfl) (Nat.le_of_ble_eq_true rfl) ?_
  refine g_aload_n dL_law_745 rfl ?_
  refine g_aload_n dL_law_746 rfl ?_
  refine g_iload_n dL_law_747 rfl ?_
  refine g_iconst dL_law_748 ic_1 ?_
  refine g_iadd dL_law_749 ?_
  refine g_sld (i + 1) dL_law_750 (sx_1 i) (by omega) hX ?_
  refine g_aload_n dL_law_751 rfl ?_
  refine g_iload_n dL_law_752 rfl ?_
  refine g_iconst dL_law_753 ic_2 ?_
  refine g_iadd dL_law_754 ?_
  refine g_sld (i + 2) dL_law_755 (sx_2 i) (by omega) hX ?_
  refine g_callV2i (hB T) mi_X4_owes mv_X4_owes ml_L_79 dL_law_756 rfl rfl (by decide) (Nat.le_of_ble_eq_true rfl) (Nat.le_of_ble_eq_true rfl) ?_
  refine g_icmp_eq 1563 dL_law_759 (by decide) (fun c759 => ?_) (fun c759 => ?_)
  · exact k
  · exact absurd rfl c759

set_option maxRecDepth 100000 in
set_option maxHeartbeats 4000000 in
theorem law_part {X : Sc} {i : Nat} {h : Hp} (hi : i + 6 ≤ X.2) (hX : X.2 < 2 ^ 31) (R : Rel h) (K : ∀ h2, Rel h2 → LG X i 1563 h2) : LG X i 764 h := by
  obtain ⟨T, hA⟩ := exT (c_X3_part (X := X) (h := h) R.1  (a := X.1 (i + 1)) (b := X.1 (i + 2)))
  have e1 := fun T => hQ_g h (f_part (h 1) (X.1 (i + 1)) (X.1 (i + 2))) T (g := 11) (by decide) (by decide) (by decide)
  have hB := fun T => c_X4_part (X := X) (h := hQ h (f_part (h 1) (X.1 (i + 1)) (X.1 (i + 2))) T) (by rw [hQ_g _ _ _ (by decide) (by decide) (by decide), R.2.1]; exact R.1)  (a := X.1 (i + 1)) (b := X.1 (i + 2))
  simp only [e1, R.2.1] at hB
  obtain ⟨h3, k⟩ := K _ (Rel_B R (F := (f_part (h 1) (X.1 (i + 1)) (X.1 (i + 2)))) T (ok_part R.1))
  refine ⟨h3, ?_⟩
  refine g_aload_n dL_law_764 rfl ?_
  refine g_aload_n dL_law_765 rfl ?_
  refine g_iload_n dL_law_766 rfl ?_
  refine g_iconst dL_law_767 ic_1 ?_
  refine g_iadd dL_law_768 ?_
  refine g_sld (i + 1) dL_law_769 (sx_1 i) (by omega) hX ?_
  refine g_aload_n dL_law_770 rfl ?_
  refine g_iload_n dL_law_771 rfl ?_
  refine g_iconst dL_law_772 ic_2 ?_
  refine g_iadd dL_law_773 ?_
  refine g_sld (i + 2) dL_law_774 (sx_2 i) (by omega) hX ?_
  refine g_callV2i (hA) mi_X3_part mv_X3_part ml_L_80 dL_law_775 rfl rfl (by decide) (Nat.le_of_ble_eq_true rfl) (Nat.le_of_ble_eq_true rfl) ?_
  refine g_aload_n dL_law_778 rfl ?_
  refine g_aload_n dL_law_779 rfl ?_
  refine g_iload_n dL_law_780 rfl ?_
  refine g_iconst dL_law_781 ic_1 ?_
  refine g_iadd dL_law_782 ?_
  refine g_sld (i + 1) dL_law_783 (sx_1 i) (by omega) hX ?_
  refine g_aload_n dL_law_784 rfl ?_
  refine g_iload_n dL_law_785 rfl ?_
  refine g_iconst dL_law_786 ic_2 ?_
  refine g_iadd dL_law_787 ?_
  refine g_sld (i + 2) dL_law_788 (sx_2 i) (by omega) hX ?_
  refine g_callV2i (hB T) mi_X4_part mv_X4_part ml_L_83 dL_law_789 rfl rfl (by decide) (Nat.le_of_ble_eq_true rfl) (Nat.le_of_ble_eq_true rfl) ?_
  refine g_icmp_eq 1563 dL_law_792 (by decide) (fun c792 => ?_) (fun c792 => ?_)
  · exact k
  · exact absurd rfl c792

set_option maxRecDepth 100000 in
set_option maxHeartbeats 4000000 in
theorem law_dishFor {X : Sc} {i : Nat} {h : Hp} (hi : i + 6 ≤ X.2) (hX : X.2 < 2 ^ 31) (R : Rel h) (K : ∀ h2, Rel h2 → LG X i 1563 h2) : LG X i 797 h := by
  obtain ⟨T, hA⟩ := exT (c_X3_dishFor (X := X) (h := h) R.1  (i := X.1 (i + 1)) (n := X.1 (i + 2)))
  have e1 := fun T => hQ_g h (f_dishFor (h 1) (X.1 (i + 1)) (X.1 (i + 2))) T (g := 11) (by decide) (by decide) (by decide)
  have hB := fun T => c_X4_dishFor (X := X) (h := hQ h (f_dishFor (h 1) (X.1 (i + 1)) (X.1 (i + 2))) T) (by rw [hQ_g _ _ _ (by decide) (by decide) (by decide), R.2.1]; exact R.1)  (i := X.1 (i + 1)) (n := X.1 (i + 2))
  simp only [e1, R.2.1] at hB
  obtain ⟨h3, k⟩ := K _ (Rel_B R (F := (f_dishFor (h 1) (X.1 (i + 1)) (X.1 (i + 2)))) T (ok_dishFor R.1))
  refine ⟨h3, ?_⟩
  refine g_aload_n dL_law_797 rfl ?_
  refine g_aload_n dL_law_798 rfl ?_
  refine g_iload_n dL_law_799 rfl ?_
  refine g_iconst dL_law_800 ic_1 ?_
  refine g_iadd dL_law_801 ?_
  refine g_sld (i + 1) dL_law_802 (sx_1 i) (by omega) hX ?_
  refine g_aload_n dL_law_803 rfl ?_
  refine g_iload_n dL_law_804 rfl ?_
  refine g_iconst dL_law_805 ic_2 ?_
  refine g_iadd dL_law_806 ?_
  refine g_sld (i + 2) dL_law_807 (sx_2 i) (by omega) hX ?_
  refine g_callV2i (hA) mi_X3_dishFor mv_X3_dishFor ml_L_84 dL_law_808 rfl rfl (by decide) (Nat.le_of_ble_eq_true rfl) (Nat.le_of_ble_eq_true rfl) ?_
  refine g_aload_n dL_law_811 rfl ?_
  refine g_aload_n dL_law_812 rfl ?_
  refine g_iload_n dL_law_813 rfl ?_
  refine g_iconst dL_law_814 ic_1 ?_
  refine g_iadd dL_law_815 ?_
  refine g_sld (i + 1) dL_law_816 (sx_1 i) (by omega) hX ?_
  refine g_aload_n dL_law_817 rfl ?_
  refine g_iload_n dL_law_818 rfl ?_
  refine g_iconst dL_law_819 ic_2 ?_
  refine g_iadd dL_law_820 ?_
  refine g_sld (i + 2) dL_law_821 (sx_2 i) (by omega) hX ?_
  refine g_callV2i (hB T) mi_X4_dishFor mv_X4_dishFor ml_L_87 dL_law_822 rfl rfl (by decide) (Nat.le_of_ble_eq_true rfl) (Nat.le_of_ble_eq_true rfl) ?_
  refine g_icmp_eq 1563 dL_law_825 (by decide) (fun c825 => ?_) (fun c825 => ?_)
  · exact k
  · exact absurd rfl c825

set_option maxRecDepth 100000 in
set_option maxHeartbeats 4000000 in
theorem law_kindFor {X : Sc} {i : Nat} {h : Hp} (hi : i + 6 ≤ X.2) (hX : X.2 < 2 ^ 31) (R : Rel h) (K : ∀ h2, Rel h2 → LG X i 1563 h2) : LG X i 830 h := by
  obtain ⟨T, hA⟩ := exT (c_X3_kindFor (X := X) (h := h) R.1  (d := X.1 (i + 1)) (n := X.1 (i + 2)))
  have e1 := fun T => hQ_g h (f_kindFor (h 1) (X.1 (i + 1)) (X.1 (i + 2))) T (g := 11) (by decide) (by decide) (by decide)
  have hB := fun T => c_X4_kindFor (X := X) (h := hQ h (f_kindFor (h 1) (X.1 (i + 1)) (X.1 (i + 2))) T) (by rw [hQ_g _ _ _ (by decide) (by decide) (by decide), R.2.1]; exact R.1)  (d := X.1 (i + 1)) (n := X.1 (i + 2))
  simp only [e1, R.2.1] at hB
  obtain ⟨h3, k⟩ := K _ (Rel_B R (F := (f_kindFor (h 1) (X.1 (i + 1)) (X.1 (i + 2)))) T (ok_kindFor R.1))
  refine ⟨h3, ?_⟩
  refine g_aload_n dL_law_830 rfl ?_
  refine g_aload_n dL_law_831 rfl ?_
  refine g_iload_n dL_law_832 rfl ?_
  refine g_iconst dL_law_833 ic_1 ?_
  refine g_iadd dL_law_834 ?_
  refine g_sld (i + 1) dL_law_835 (sx_1 i) (by omega) hX ?_
  refine g_aload_n dL_law_836 rfl ?_
  refine g_iload_n dL_law_837 rfl ?_
  refine g_iconst dL_law_838 ic_2 ?_
  refine g_iadd dL_law_839 ?_
  refine g_sld (i + 2) dL_law_840 (sx_2 i) (by omega) hX ?_
  refine g_callV2i (hA) mi_X3_kindFor mv_X3_kindFor ml_L_88 dL_law_841 rfl rfl (by decide) (Nat.le_of_ble_eq_true rfl) (Nat.le_of_ble_eq_true rfl) ?_
  refine g_aload_n dL_law_844 rfl ?_
  refine g_aload_n dL_law_845 rfl ?_
  refine g_iload_n dL_law_846 rfl ?_
  refine g_iconst dL_law_847 ic_1 ?_
  refine g_iadd dL_law_848 ?_
  refine g_sld (i + 1) dL_law_849 (sx_1 i) (by omega) hX ?_
  refine g_aload_n dL_law_850 rfl ?_
  refine g_iload_n dL_law_851 rfl ?_
  refine g_iconst dL_law_852 ic_2 ?_
  refine g_iadd dL_law_853 ?_
  refine g_sld (i + 2) dL_law_854 (sx_2 i) (by omega) hX ?_
  refine g_callV2i (hB T) mi_X4_kindFor mv_X4_kindFor ml_L_91 dL_law_855 rfl rfl (by decide) (Nat.le_of_ble_eq_true rfl) (Nat.le_of_ble_eq_true rfl) ?_
  refine g_icmp_eq 1563 dL_law_858 (by decide) (fun c858 => ?_) (fun c858 => ?_)
  · exact k
  · exact absurd rfl c858

set_option maxRecDepth 100000 in
set_option maxHeartbeats 4000000 in
theorem law_bentFor {X : Sc} {i : Nat} {h : Hp} (hi : i + 6 ≤ X.2) (hX : X.2 < 2 ^ 31) (R : Rel h) (K : ∀ h2, Rel h2 → LG X i 1563 h2) : LG X i 863 h := by
  obtain ⟨T, hA⟩ := exT (c_X3_bentFor (X := X) (h := h) R.1  (g := X.1 (i + 1)) (t := X.1 (i + 2)) (n := X.1 (i + 3)))
  have e1 := fun T => hQ_g h (f_bentFor (h 1) (X.1 (i + 1)) (X.1 (i + 2)) (X.1 (i + 3))) T (g := 11) (by decide) (by decide) (by decide)
  have hB := fun T => c_X4_bentFor (X := X) (h := hQ h (f_bentFor (h 1) (X.1 (i + 1)) (X.1 (i + 2)) (X.1 (i + 3))) T) (by rw [hQ_g _ _ _ (by decide) (by decide) (by decide), R.2.1]; exact R.1)  (g := X.1 (i + 1)) (t := X.1 (i + 2)) (n := X.1 (i + 3))
  simp only [e1, R.2.1] at hB
  obtain ⟨h3, k⟩ := K _ (Rel_B R (F := (f_bentFor (h 1) (X.1 (i + 1)) (X.1 (i + 2)) (X.1 (i + 3)))) T (ok_bentFor R.1))
  refine ⟨h3, ?_⟩
  refine g_aload_n dL_law_863 rfl ?_
  refine g_aload_n dL_law_864 rfl ?_
  refine g_iload_n dL_law_865 rfl ?_
  refine g_iconst dL_law_866 ic_1 ?_
  refine g_iadd dL_law_867 ?_
  refine g_sld (i + 1) dL_law_868 (sx_1 i) (by omega) hX ?_
  refine g_aload_n dL_law_869 rfl ?_
  refine g_iload_n dL_law_870 rfl ?_
  refine g_iconst dL_law_871 ic_2 ?_
  refine g_iadd dL_law_872 ?_
  refine g_sld (i + 2) dL_law_873 (sx_2 i) (by omega) hX ?_
  refine g_aload_n dL_law_874 rfl ?_
  refine g_iload_n dL_law_875 rfl ?_
  refine g_iconst dL_law_876 ic_3 ?_
  refine g_iadd dL_law_877 ?_
  refine g_sld (i + 3) dL_law_878 (sx_3 i) (by omega) hX ?_
  refine g_callV3i (hA) mi_X3_bentFor mv_X3_bentFor ml_L_92 dL_law_879 rfl rfl (by decide) (Nat.le_of_ble_eq_true rfl) (Nat.le_of_ble_eq_true rfl) ?_
  refine g_aload_n dL_law_882 rfl ?_
  refine g_aload_n dL_law_883 rfl ?_
  refine g_iload_n dL_law_884 rfl ?_
  refine g_iconst dL_law_885 ic_1 ?_
  refine g_iadd dL_law_886 ?_
  refine g_sld (i + 1) dL_law_887 (sx_1 i) (by omega) hX ?_
  refine g_aload_n dL_law_888 rfl ?_
  refine g_iload_n dL_law_889 rfl ?_
  refine g_iconst dL_law_890 ic_2 ?_
  refine g_iadd dL_law_891 ?_
  refine g_sld (i + 2) dL_law_892 (sx_2 i) (by omega) hX ?_
  refine g_aload_n dL_law_893 rfl ?_
  refine g_iload_n dL_law_894 rfl ?_
  refine g_iconst dL_law_895 ic_3 ?_
  refine g_iadd dL_law_896 ?_
  refine g_sld (i + 3) dL_law_897 (sx_3 i) (by omega) hX ?_
  refine g_callV3i (hB T) mi_X4_bentFor mv_X4_bentFor ml_L_95 dL_law_898 rfl rfl (by decide) (Nat.le_of_ble_eq_true rfl) (Nat.le_of_ble_eq_true rfl) ?_
  refine g_icmp_eq 1563 dL_law_901 (by decide) (fun c901 => ?_) (fun c901 => ?_)
  · exact k
  · exact absurd rfl c901

set_option maxRecDepth 100000 in
set_option maxHeartbeats 4000000 in
theorem law_courses {X : Sc} {i : Nat} {h : Hp} (hi : i + 6 ≤ X.2) (hX : X.2 < 2 ^ 31) (R : Rel h) (K : ∀ h2, Rel h2 → LG X i 1563 h2) : LG X i 906 h := by
  obtain ⟨T, hA⟩ := exT (c_X3_courses (X := X) (h := h) R.1  (g := X.1 (i + 1)) (t := X.1 (i + 2)))
  have e1 := fun T => hQ_g h (f_courses (h 1) (X.1 (i + 1)) (X.1 (i + 2))) T (g := 11) (by decide) (by decide) (by decide)
  have hB := fun T => c_X4_courses (X := X) (h := hQ h (f_courses (h 1) (X.1 (i + 1)) (X.1 (i + 2))) T) (by rw [hQ_g _ _ _ (by decide) (by decide) (by decide), R.2.1]; exact R.1)  (g := X.1 (i + 1)) (t := X.1 (i + 2))
  simp only [e1, R.2.1] at hB
  obtain ⟨h3, k⟩ := K _ (Rel_B R (F := (f_courses (h 1) (X.1 (i + 1)) (X.1 (i + 2)))) T (ok_courses R.1))
  refine ⟨h3, ?_⟩
  refine g_aload_n dL_law_906 rfl ?_
  refine g_aload_n dL_law_907 rfl ?_
  refine g_iload_n dL_law_908 rfl ?_
  refine g_iconst dL_law_909 ic_1 ?_
  refine g_iadd dL_law_910 ?_
  refine g_sld (i + 1) dL_law_911 (sx_1 i) (by omega) hX ?_
  refine g_aload_n dL_law_912 rfl ?_
  refine g_iload_n dL_law_913 rfl ?_
  refine g_iconst dL_law_914 ic_2 ?_
  refine g_iadd dL_law_915 ?_
  refine g_sld (i + 2) dL_law_916 (sx_2 i) (by omega) hX ?_
  refine g_callV2i (hA) mi_X3_courses mv_X3_courses ml_L_96 dL_law_917 rfl rfl (by decide) (Nat.le_of_ble_eq_true rfl) (Nat.le_of_ble_eq_true rfl) ?_
  refine g_aload_n dL_law_920 rfl ?_
  refine g_aload_n dL_law_921 rfl ?_
  refine g_iload_n dL_law_922 rfl ?_
  refine g_iconst dL_law_923 ic_1 ?_
  refine g_iadd dL_law_924 ?_
  refine g_sld (i + 1) dL_law_925 (sx_1 i) (by omega) hX ?_
  refine g_aload_n dL_law_926 rfl ?_
  refine g_iload_n dL_law_927 rfl ?_
  refine g_iconst dL_law_928 ic_2 ?_
  refine g_iadd dL_law_929 ?_
  refine g_sld (i + 2) dL_law_930 (sx_2 i) (by omega) hX ?_
  refine g_callV2i (hB T) mi_X4_courses mv_X4_courses ml_L_99 dL_law_931 rfl rfl (by decide) (Nat.le_of_ble_eq_true rfl) (Nat.le_of_ble_eq_true rfl) ?_
  refine g_icmp_eq 1563 dL_law_934 (by decide) (fun c934 => ?_) (fun c934 => ?_)
  · exact k
  · exact absurd rfl c934

set_option maxRecDepth 100000 in
set_option maxHeartbeats 4000000 in
theorem law_strike {X : Sc} {i : Nat} {h : Hp} (hi : i + 6 ≤ X.2) (hX : X.2 < 2 ^ 31) (R : Rel h) (K : ∀ h2, Rel h2 → LG X i 1563 h2) : LG X i 939 h := by
  obtain ⟨T, hA⟩ := c_X3_strike (X := X) (h := h) R.1 (g := X.1 (i + 1)) (t := X.1 (i + 2)) (n := X.1 (i + 3))
  have e1 := fun T => hQ_g h (f_strike (h 1) (X.1 (i + 1)) (X.1 (i + 2)) (X.1 (i + 3))) T (g := 11) (by decide) (by decide) (by decide)
  have hB := fun T => c_X4_strike (X := X) (h := hQ h (f_strike (h 1) (X.1 (i + 1)) (X.1 (i + 2)) (X.1 (i + 3))) T) (by rw [hQ_g _ _ _ (by decide) (by decide) (by decide), R.2.1]; exact R.1)  (g := X.1 (i + 1)) (t := X.1 (i + 2)) (n := X.1 (i + 3))
  simp only [e1, R.2.1] at hB
  obtain ⟨h3, k⟩ := K _ (Rel_B R (F := (f_strike (h 1) (X.1 (i + 1)) (X.1 (i + 2)) (X.1 (i + 3)))) T (ok_strike R.1))
  refine ⟨h3, ?_⟩
  refine g_aload_n dL_law_939 rfl ?_
  refine g_aload_n dL_law_940 rfl ?_
  refine g_iload_n dL_law_941 rfl ?_
  refine g_iconst dL_law_942 ic_1 ?_
  refine g_iadd dL_law_943 ?_
  refine g_sld (i + 1) dL_law_944 (sx_1 i) (by omega) hX ?_
  refine g_aload_n dL_law_945 rfl ?_
  refine g_iload_n dL_law_946 rfl ?_
  refine g_iconst dL_law_947 ic_2 ?_
  refine g_iadd dL_law_948 ?_
  refine g_sld (i + 2) dL_law_949 (sx_2 i) (by omega) hX ?_
  refine g_aload_n dL_law_950 rfl ?_
  refine g_iload_n dL_law_951 rfl ?_
  refine g_iconst dL_law_952 ic_3 ?_
  refine g_iadd dL_law_953 ?_
  refine g_sld (i + 3) dL_law_954 (sx_3 i) (by omega) hX ?_
  refine g_callV3i (hA) mi_X3_strike mv_X3_strike ml_L_100 dL_law_955 rfl rfl (by decide) (Nat.le_of_ble_eq_true rfl) (Nat.le_of_ble_eq_true rfl) ?_
  refine g_aload_n dL_law_958 rfl ?_
  refine g_aload_n dL_law_959 rfl ?_
  refine g_iload_n dL_law_960 rfl ?_
  refine g_iconst dL_law_961 ic_1 ?_
  refine g_iadd dL_law_962 ?_
  refine g_sld (i + 1) dL_law_963 (sx_1 i) (by omega) hX ?_
  refine g_aload_n dL_law_964 rfl ?_
  refine g_iload_n dL_law_965 rfl ?_
  refine g_iconst dL_law_966 ic_2 ?_
  refine g_iadd dL_law_967 ?_
  refine g_sld (i + 2) dL_law_968 (sx_2 i) (by omega) hX ?_
  refine g_aload_n dL_law_969 rfl ?_
  refine g_iload_n dL_law_970 rfl ?_
  refine g_iconst dL_law_971 ic_3 ?_
  refine g_iadd dL_law_972 ?_
  refine g_sld (i + 3) dL_law_973 (sx_3 i) (by omega) hX ?_
  refine g_callV3i (hB T) mi_X4_strike mv_X4_strike ml_L_103 dL_law_974 rfl rfl (by decide) (Nat.le_of_ble_eq_true rfl) (Nat.le_of_ble_eq_true rfl) ?_
  refine g_icmp_eq 1563 dL_law_977 (by decide) (fun c977 => ?_) (fun c977 => ?_)
  · exact k
  · exact absurd rfl c977

set_option maxRecDepth 100000 in
set_option maxHeartbeats 4000000 in
theorem law_fits {X : Sc} {i : Nat} {h : Hp} (hi : i + 6 ≤ X.2) (hX : X.2 < 2 ^ 31) (R : Rel h) (K : ∀ h2, Rel h2 → LG X i 1563 h2) : LG X i 982 h := by
  obtain ⟨T, hA⟩ := exT (c_X3_fits (X := X) (h := h) R.1 R.2.2.1 (s := X.1 (i + 1)) (g := X.1 (i + 2)))
  have e1 := fun T => hQ_g h (f_fits (h 1) (h 6) (X.1 (i + 1)) (X.1 (i + 2))) T (g := 11) (by decide) (by decide) (by decide)
  have e6 := fun T => hQ_g h (f_fits (h 1) (h 6) (X.1 (i + 1)) (X.1 (i + 2))) T (g := 16) (by decide) (by decide) (by decide)
  have hB := fun T => c_X4_fits (X := X) (h := hQ h (f_fits (h 1) (h 6) (X.1 (i + 1)) (X.1 (i + 2))) T) (by rw [hQ_g _ _ _ (by decide) (by decide) (by decide), R.2.1]; exact R.1) (by rw [hQ_g _ _ _ (by decide) (by decide) (by decide), R.2.2.2.1]; exact R.2.2.1) (s := X.1 (i + 1)) (g := X.1 (i + 2))
  simp only [e1, e6, R.2.1, R.2.2.2.1] at hB
  obtain ⟨h3, k⟩ := K _ (Rel_B R (F := (f_fits (h 1) (h 6) (X.1 (i + 1)) (X.1 (i + 2)))) T (ok_fits (sh := h 6) R.1))
  refine ⟨h3, ?_⟩
  refine g_aload_n dL_law_982 rfl ?_
  refine g_aload_n dL_law_983 rfl ?_
  refine g_iload_n dL_law_984 rfl ?_
  refine g_iconst dL_law_985 ic_1 ?_
  refine g_iadd dL_law_986 ?_
  refine g_sld (i + 1) dL_law_987 (sx_1 i) (by omega) hX ?_
  refine g_aload_n dL_law_988 rfl ?_
  refine g_iload_n dL_law_989 rfl ?_
  refine g_iconst dL_law_990 ic_2 ?_
  refine g_iadd dL_law_991 ?_
  refine g_sld (i + 2) dL_law_992 (sx_2 i) (by omega) hX ?_
  refine g_callV2i (hA) mi_X3_fits mv_X3_fits ml_L_104 dL_law_993 rfl rfl (by decide) (Nat.le_of_ble_eq_true rfl) (Nat.le_of_ble_eq_true rfl) ?_
  refine g_aload_n dL_law_996 rfl ?_
  refine g_aload_n dL_law_997 rfl ?_
  refine g_iload_n dL_law_998 rfl ?_
  refine g_iconst dL_law_999 ic_1 ?_
  refine g_iadd dL_law_1000 ?_
  refine g_sld (i + 1) dL_law_1001 (sx_1 i) (by omega) hX ?_
  refine g_aload_n dL_law_1002 rfl ?_
  refine g_iload_n dL_law_1003 rfl ?_
  refine g_iconst dL_law_1004 ic_2 ?_
  refine g_iadd dL_law_1005 ?_
  refine g_sld (i + 2) dL_law_1006 (sx_2 i) (by omega) hX ?_
  refine g_callV2i (hB T) mi_X4_fits mv_X4_fits ml_L_107 dL_law_1007 rfl rfl (by decide) (Nat.le_of_ble_eq_true rfl) (Nat.le_of_ble_eq_true rfl) ?_
  refine g_icmp_eq 1563 dL_law_1010 (by decide) (fun c1010 => ?_) (fun c1010 => ?_)
  · exact k
  · exact absurd rfl c1010

set_option maxRecDepth 100000 in
set_option maxHeartbeats 4000000 in
theorem law_kinds {X : Sc} {i : Nat} {h : Hp} (hi : i + 6 ≤ X.2) (hX : X.2 < 2 ^ 31) (R : Rel h) (K : ∀ h2, Rel h2 → LG X i 1563 h2) : LG X i 1015 h := by
  obtain ⟨T, hA⟩ := exT (c_X3_kinds (X := X) (h := h) R.1 R.2.2.1 (s := X.1 (i + 1)) (d := X.1 (i + 2)) (g := X.1 (i + 3)))
  have e1 := fun T => hQ_g h (f_kinds (h 1) (h 6) (X.1 (i + 1)) (X.1 (i + 2)) (X.1 (i + 3))) T (g := 11) (by decide) (by decide) (by decide)
  have e6 := fun T => hQ_g h (f_kinds (h 1) (h 6) (X.1 (i + 1)) (X.1 (i + 2)) (X.1 (i + 3))) T (g := 16) (by decide) (by decide) (by decide)
  have hB := fun T => c_X4_kinds (X := X) (h := hQ h (f_kinds (h 1) (h 6) (X.1 (i + 1)) (X.1 (i + 2)) (X.1 (i + 3))) T) (by rw [hQ_g _ _ _ (by decide) (by decide) (by decide), R.2.1]; exact R.1) (by rw [hQ_g _ _ _ (by decide) (by decide) (by decide), R.2.2.2.1]; exact R.2.2.1) (s := X.1 (i + 1)) (d := X.1 (i + 2)) (g := X.1 (i + 3))
  simp only [e1, e6, R.2.1, R.2.2.2.1] at hB
  obtain ⟨h3, k⟩ := K _ (Rel_B R (F := (f_kinds (h 1) (h 6) (X.1 (i + 1)) (X.1 (i + 2)) (X.1 (i + 3)))) T (ok_kinds (sh := h 6) R.1))
  refine ⟨h3, ?_⟩
  refine g_aload_n dL_law_1015 rfl ?_
  refine g_aload_n dL_law_1016 rfl ?_
  refine g_iload_n dL_law_1017 rfl ?_
  refine g_iconst dL_law_1018 ic_1 ?_
  refine g_iadd dL_law_1019 ?_
  refine g_sld (i + 1) dL_law_1020 (sx_1 i) (by omega) hX ?_
  refine g_aload_n dL_law_1021 rfl ?_
  refine g_iload_n dL_law_1022 rfl ?_
  refine g_iconst dL_law_1023 ic_2 ?_
  refine g_iadd dL_law_1024 ?_
  refine g_sld (i + 2) dL_law_1025 (sx_2 i) (by omega) hX ?_
  refine g_aload_n dL_law_1026 rfl ?_
  refine g_iload_n dL_law_1027 rfl ?_
  refine g_iconst dL_law_1028 ic_3 ?_
  refine g_iadd dL_law_1029 ?_
  refine g_sld (i + 3) dL_law_1030 (sx_3 i) (by omega) hX ?_
  refine g_callV3i (hA) mi_X3_kinds mv_X3_kinds ml_L_108 dL_law_1031 rfl rfl (by decide) (Nat.le_of_ble_eq_true rfl) (Nat.le_of_ble_eq_true rfl) ?_
  refine g_aload_n dL_law_1034 rfl ?_
  refine g_aload_n dL_law_1035 rfl ?_
  refine g_iload_n dL_law_1036 rfl ?_
  refine g_iconst dL_law_1037 ic_1 ?_
  refine g_iadd dL_law_1038 ?_
  refine g_sld (i + 1) dL_law_1039 (sx_1 i) (by omega) hX ?_
  refine g_aload_n dL_law_1040 rfl ?_
  refine g_iload_n dL_law_1041 rfl ?_
  refine g_iconst dL_law_1042 ic_2 ?_
  refine g_iadd dL_law_1043 ?_
  refine g_sld (i + 2) dL_law_1044 (sx_2 i) (by omega) hX ?_
  refine g_aload_n dL_law_1045 rfl ?_
  refine g_iload_n dL_law_1046 rfl ?_
  refine g_iconst dL_law_1047 ic_3 ?_
  refine g_iadd dL_law_1048 ?_
  refine g_sld (i + 3) dL_law_1049 (sx_3 i) (by omega) hX ?_
  refine g_callV3i (hB T) mi_X4_kinds mv_X4_kinds ml_L_111 dL_law_1050 rfl rfl (by decide) (Nat.le_of_ble_eq_true rfl) (Nat.le_of_ble_eq_true rfl) ?_
  refine g_icmp_eq 1563 dL_law_1053 (by decide) (fun c1053 => ?_) (fun c1053 => ?_)
  · exact k
  · exact absurd rfl c1053

set_option maxRecDepth 100000 in
set_option maxHeartbeats 4000000 in
theorem law_coach {X : Sc} {i : Nat} {h : Hp} (hi : i + 6 ≤ X.2) (hX : X.2 < 2 ^ 31) (R : Rel h) (K : ∀ h2, Rel h2 → LG X i 1563 h2) : LG X i 1058 h := by
  have hA := c_X3_coach (X := X) (h := h) R.1 (n := X.1 (i + 1))
  have hB := c_X4_coach (X := X) (h := oC h (f_coach (h 1) (X.1 (i + 1)))) (by rw [oC_g _ _ (by decide) (by decide), R.2.1]; exact R.1) (n := X.1 (i + 1))
  rw [oC_g h _ (g := 11) (by decide) (by decide), R.2.1] at hB
  obtain ⟨h3, k⟩ := K _ (Rel_A R (F := (f_coach (h 1) (X.1 (i + 1)))) (ok_coach R.1))
  refine ⟨h3, ?_⟩
  refine g_aload_n dL_law_1058 rfl ?_
  refine g_aload_n dL_law_1059 rfl ?_
  refine g_iload_n dL_law_1060 rfl ?_
  refine g_iconst dL_law_1061 ic_1 ?_
  refine g_iadd dL_law_1062 ?_
  refine g_sld (i + 1) dL_law_1063 (sx_1 i) (by omega) hX ?_
  refine g_callV1i (hA) mi_X3_coach mv_X3_coach ml_L_112 dL_law_1064 rfl rfl (by decide) (Nat.le_of_ble_eq_true rfl) (Nat.le_of_ble_eq_true rfl) ?_
  refine g_aload_n dL_law_1067 rfl ?_
  refine g_aload_n dL_law_1068 rfl ?_
  refine g_iload_n dL_law_1069 rfl ?_
  refine g_iconst dL_law_1070 ic_1 ?_
  refine g_iadd dL_law_1071 ?_
  refine g_sld (i + 1) dL_law_1072 (sx_1 i) (by omega) hX ?_
  refine g_callV1i (hB) mi_X4_coach mv_X4_coach ml_L_115 dL_law_1073 rfl rfl (by decide) (Nat.le_of_ble_eq_true rfl) (Nat.le_of_ble_eq_true rfl) ?_
  refine g_icmp_eq 1563 dL_law_1076 (by decide) (fun c1076 => ?_) (fun c1076 => ?_)
  · exact k
  · exact absurd rfl c1076

set_option maxRecDepth 100000 in
set_option maxHeartbeats 4000000 in
theorem law_odds {X : Sc} {i : Nat} {h : Hp} (hi : i + 6 ≤ X.2) (hX : X.2 < 2 ^ 31) (R : Rel h) (K : ∀ h2, Rel h2 → LG X i 1563 h2) : LG X i 1081 h := by
  have hA := c_X3_odds (X := X) (h := h) R.1 (g := X.1 (i + 1)) (d := X.1 (i + 2)) (n := X.1 (i + 3)) (k := X.1 (i + 4))
  have hB := fun T => c_X4_odds (X := X) (h := hO h T (f_odds (h 1) (X.1 (i + 1)) (X.1 (i + 2)) (X.1 (i + 3)) (X.1 (i + 4)))) (by rw [hO_g _ _ _ (by decide) (by decide), R.2.1]; exact R.1) (g := X.1 (i + 1)) (d := X.1 (i + 2)) (n := X.1 (i + 3)) (k := X.1 (i + 4))
  simp only [hO_g h _ _ (g := 11) (by decide) (by decide), R.2.1] at hB
  obtain ⟨h3, k⟩ := K _ (Rel_O R (F := (f_odds (h 1) (X.1 (i + 1)) (X.1 (i + 2)) (X.1 (i + 3)) (X.1 (i + 4)))) (pG (h 1) (tn (X.1 (i + 1))) 0 (nI 99)))
  refine ⟨h3, ?_⟩
  refine g_aload_n dL_law_1081 rfl ?_
  refine g_aload_n dL_law_1082 rfl ?_
  refine g_iload_n dL_law_1083 rfl ?_
  refine g_iconst dL_law_1084 ic_1 ?_
  refine g_iadd dL_law_1085 ?_
  refine g_sld (i + 1) dL_law_1086 (sx_1 i) (by omega) hX ?_
  refine g_aload_n dL_law_1087 rfl ?_
  refine g_iload_n dL_law_1088 rfl ?_
  refine g_iconst dL_law_1089 ic_2 ?_
  refine g_iadd dL_law_1090 ?_
  refine g_sld (i + 2) dL_law_1091 (sx_2 i) (by omega) hX ?_
  refine g_aload_n dL_law_1092 rfl ?_
  refine g_iload_n dL_law_1093 rfl ?_
  refine g_iconst dL_law_1094 ic_3 ?_
  refine g_iadd dL_law_1095 ?_
  refine g_sld (i + 3) dL_law_1096 (sx_3 i) (by omega) hX ?_
  refine g_aload_n dL_law_1097 rfl ?_
  refine g_iload_n dL_law_1098 rfl ?_
  refine g_iconst dL_law_1099 ic_4 ?_
  refine g_iadd dL_law_1100 ?_
  refine g_sld (i + 4) dL_law_1101 (sx_4 i) (by omega) hX ?_
  refine g_callV4i (hA) mi_X3_odds mv_X3_odds ml_L_116 dL_law_1102 rfl rfl (by decide) (Nat.le_of_ble_eq_true rfl) (Nat.le_of_ble_eq_true rfl) ?_
  refine g_aload_n dL_law_1105 rfl ?_
  refine g_aload_n dL_law_1106 rfl ?_
  refine g_iload_n dL_law_1107 rfl ?_
  refine g_iconst dL_law_1108 ic_1 ?_
  refine g_iadd dL_law_1109 ?_
  refine g_sld (i + 1) dL_law_1110 (sx_1 i) (by omega) hX ?_
  refine g_aload_n dL_law_1111 rfl ?_
  refine g_iload_n dL_law_1112 rfl ?_
  refine g_iconst dL_law_1113 ic_2 ?_
  refine g_iadd dL_law_1114 ?_
  refine g_sld (i + 2) dL_law_1115 (sx_2 i) (by omega) hX ?_
  refine g_aload_n dL_law_1116 rfl ?_
  refine g_iload_n dL_law_1117 rfl ?_
  refine g_iconst dL_law_1118 ic_3 ?_
  refine g_iadd dL_law_1119 ?_
  refine g_sld (i + 3) dL_law_1120 (sx_3 i) (by omega) hX ?_
  refine g_aload_n dL_law_1121 rfl ?_
  refine g_iload_n dL_law_1122 rfl ?_
  refine g_iconst dL_law_1123 ic_4 ?_
  refine g_iadd dL_law_1124 ?_
  refine g_sld (i + 4) dL_law_1125 (sx_4 i) (by omega) hX ?_
  refine g_callV4i (hB _) mi_X4_odds mv_X4_odds ml_L_120 dL_law_1126 rfl rfl (by decide) (Nat.le_of_ble_eq_true rfl) (Nat.le_of_ble_eq_true rfl) ?_
  refine g_lcmp dL_law_1129 ?_
  rw [lg_same]
  refine g_if_eq 1563 dL_law_1130 (by decide) (fun c1130 => ?_) (fun c1130 => ?_)
  · exact k
  · exact absurd rfl c1130

set_option maxRecDepth 100000 in
set_option maxHeartbeats 4000000 in
theorem law_seed {X : Sc} {i : Nat} {h : Hp} (hi : i + 6 ≤ X.2) (hX : X.2 < 2 ^ 31) (R : Rel h) (K : ∀ h2, Rel h2 → LG X i 1563 h2) : LG X i 1135 h := by
  have hA := c_X3_seed (X := X) (h := h) (v := X.1 (i + 1))
  have hB := c_X4_seed (X := X) (h := setg h 1 (upd (h 1) 1 (X.1 (i + 1)))) (v := X.1 (i + 1))
  rw [setg_n h _ (show 11 ≠ 1 by decide), R.2.1] at hB
  obtain ⟨h3, k⟩ := K _ (Rel_seed R (X.1 (i + 1)))
  refine ⟨h3, ?_⟩
  refine g_aload_n dL_law_1135 rfl ?_
  refine g_aload_n dL_law_1136 rfl ?_
  refine g_iload_n dL_law_1137 rfl ?_
  refine g_iconst dL_law_1138 ic_1 ?_
  refine g_iadd dL_law_1139 ?_
  refine g_sld (i + 1) dL_law_1140 (sx_1 i) (by omega) hX ?_
  refine g_callV1i (hA) mi_X3_seed mv_X3_seed ml_L_121 dL_law_1141 rfl rfl (by decide) (Nat.le_of_ble_eq_true rfl) (Nat.le_of_ble_eq_true rfl) ?_
  refine g_aload_n dL_law_1144 rfl ?_
  refine g_aload_n dL_law_1145 rfl ?_
  refine g_iload_n dL_law_1146 rfl ?_
  refine g_iconst dL_law_1147 ic_1 ?_
  refine g_iadd dL_law_1148 ?_
  refine g_sld (i + 1) dL_law_1149 (sx_1 i) (by omega) hX ?_
  refine g_callV1i (hB) mi_X4_seed mv_X4_seed ml_L_124 dL_law_1150 rfl rfl (by decide) (Nat.le_of_ble_eq_true rfl) (Nat.le_of_ble_eq_true rfl) ?_
  refine g_icmp_eq 1563 dL_law_1153 (by decide) (fun c1153 => ?_) (fun c1153 => ?_)
  · exact k
  · exact absurd rfl c1153

set_option maxRecDepth 100000 in
set_option maxHeartbeats 4000000 in
theorem law_feed {X : Sc} {i : Nat} {h : Hp} (hi : i + 6 ≤ X.2) (hX : X.2 < 2 ^ 31) (R : Rel h) (K : ∀ h2, Rel h2 → LG X i 1563 h2) : LG X i 1158 h := by
  have hA := c_X3_feed (X := X) (h := h) R.2.2.2.2.2.1.1 (b := X.1 (i + 1)) (n := X.1 (i + 2))
  have hB := c_X4_feed (X := X) (h := oG 4 5 h (f_feed (h 4) (X.1 (i + 1)) (X.1 (i + 2)))) (by rw [oG_g _ _ (by decide) (by decide)]; exact R.2.2.2.2.2.1.T.1) (b := X.1 (i + 1)) (n := X.1 (i + 2))
  have hF := feed_same R (b := X.1 (i + 1)) (n := X.1 (i + 2))
  rw [oG_g h _ (g := 14) (by decide) (by decide), hF.1] at hB
  obtain ⟨h3, k⟩ := K _ hF.2
  refine ⟨h3, ?_⟩
  refine g_aload_n dL_law_1158 rfl ?_
  refine g_aload_n dL_law_1159 rfl ?_
  refine g_iload_n dL_law_1160 rfl ?_
  refine g_iconst dL_law_1161 ic_1 ?_
  refine g_iadd dL_law_1162 ?_
  refine g_sld (i + 1) dL_law_1163 (sx_1 i) (by omega) hX ?_
  refine g_aload_n dL_law_1164 rfl ?_
  refine g_iload_n dL_law_1165 rfl ?_
  refine g_iconst dL_law_1166 ic_2 ?_
  refine g_iadd dL_law_1167 ?_
  refine g_sld (i + 2) dL_law_1168 (sx_2 i) (by omega) hX ?_
  refine g_callV2i (hA) mi_X3_feed mv_X3_feed ml_L_125 dL_law_1169 rfl rfl (by decide) (Nat.le_of_ble_eq_true rfl) (Nat.le_of_ble_eq_true rfl) ?_
  refine g_aload_n dL_law_1172 rfl ?_
  refine g_aload_n dL_law_1173 rfl ?_
  refine g_iload_n dL_law_1174 rfl ?_
  refine g_iconst dL_law_1175 ic_1 ?_
  refine g_iadd dL_law_1176 ?_
  refine g_sld (i + 1) dL_law_1177 (sx_1 i) (by omega) hX ?_
  refine g_aload_n dL_law_1178 rfl ?_
  refine g_iload_n dL_law_1179 rfl ?_
  refine g_iconst dL_law_1180 ic_2 ?_
  refine g_iadd dL_law_1181 ?_
  refine g_sld (i + 2) dL_law_1182 (sx_2 i) (by omega) hX ?_
  refine g_callV2i (hB) mi_X4_feed mv_X4_feed ml_L_128 dL_law_1183 rfl rfl (by decide) (Nat.le_of_ble_eq_true rfl) (Nat.le_of_ble_eq_true rfl) ?_
  refine g_icmp_eq 1563 dL_law_1186 (by decide) (fun c1186 => ?_) (fun c1186 => ?_)
  · exact k
  · exact absurd rfl c1186

set_option maxRecDepth 100000 in
set_option maxHeartbeats 4000000 in
theorem law_wipe {X : Sc} {i : Nat} {h : Hp} (hi : i + 6 ≤ X.2) (hX : X.2 < 2 ^ 31) (R : Rel h) (K : ∀ h2, Rel h2 → LG X i 1563 h2) : LG X i 1191 h := by
  have hA := c_X3_wipe (X := X) (h := h)
  have hB := c_X4_wipe (X := X) (h := setg h 4 (upd (h 4) 0 0))
  rw [setg_n h _ (show 14 ≠ 4 by decide), R.2.2.2.2.2.1.2.1] at hB
  obtain ⟨h3, k⟩ := K _ (Rel_wipe R)
  refine ⟨h3, ?_⟩
  refine g_aload_n dL_law_1191 rfl ?_
  refine g_callV0i (hA) mi_X3_wipe mv_X3_wipe ml_L_129 dL_law_1192 rfl rfl (by decide) (Nat.le_of_ble_eq_true rfl) (Nat.le_of_ble_eq_true rfl) ?_
  refine g_aload_n dL_law_1195 rfl ?_
  refine g_callV0i (hB) mi_X4_wipe mv_X4_wipe ml_L_133 dL_law_1196 rfl rfl (by decide) (Nat.le_of_ble_eq_true rfl) (Nat.le_of_ble_eq_true rfl) ?_
  refine g_icmp_eq 1563 dL_law_1199 (by decide) (fun c1199 => ?_) (fun c1199 => ?_)
  · exact k
  · exact absurd rfl c1199

set_option maxRecDepth 100000 in
set_option maxHeartbeats 4000000 in
theorem law_text {X : Sc} {i : Nat} {h : Hp} (hi : i + 6 ≤ X.2) (hX : X.2 < 2 ^ 31) (R : Rel h) (K : ∀ h2, Rel h2 → LG X i 1563 h2) : LG X i 1204 h := by
  have hI := R.1
  have hT := R.2.2.2.2.2.1
  obtain ⟨T, t, ht, hA⟩ := c_X3_text (X := X) (h := h) hT.1 hI
  have hs := rdA_same (c := cC (h 4)) (n := tpL (h 4)) (h 1)
  have hm : In (if (rdA true (cC (h 4)) (tpL (h 4)) (h 1)).1 < 0 then h 1 else (rdA true (cC (h 4)) (tpL (h 4)) (h 1)).2.1) := by
    split
    · exact hI
    · exact rdA_In hI
  rw [hs.1, hs.2] at hA hm
  generalize e2 : setg (setg (setg h 1 (if (rdA false (cC (h 4)) (tpL (h 4)) (h 1)).1 < 0 then h 1 else (rdA false (cC (h 4)) (tpL (h 4)) (h 1)).2.1)) 3 T) 4 t = h2 at hA
  have f11 : h2 11 = h 1 := by rw [← e2]; exact R.2.1
  have f14 : h2 14 = h 14 := by rw [← e2]; rfl
  obtain ⟨u, hu, hB⟩ := c_X4_text (X := X) (h := h2) (by rw [f14]; exact hT.T.1) (by rw [f11]; exact hI)
  rw [f14] at hu
  have rr := Rel_text R hm ht hu e2.symm
  rw [f11] at rr
  rw [f14, f11, hT.c, hT.T.2] at hB
  obtain ⟨h3, k⟩ := K _ rr
  refine ⟨h3, ?_⟩
  refine g_aload_n dL_law_1204 rfl ?_
  refine g_callV0i (hA) mi_X3_text mv_X3_text ml_L_134 dL_law_1205 rfl rfl (by decide) (Nat.le_of_ble_eq_true rfl) (Nat.le_of_ble_eq_true rfl) ?_
  refine g_aload_n dL_law_1208 rfl ?_
  refine g_callV0i (hB) mi_X4_text mv_X4_text ml_L_137 dL_law_1209 rfl rfl (by decide) (Nat.le_of_ble_eq_true rfl) (Nat.le_of_ble_eq_true rfl) ?_
  refine g_icmp_eq 1563 dL_law_1212 (by decide) (fun c1212 => ?_) (fun c1212 => ?_)
  · exact k
  · exact absurd rfl c1212

set_option maxRecDepth 100000 in
set_option maxHeartbeats 4000000 in
theorem law_hold {X : Sc} {i : Nat} {h : Hp} (hi : i + 6 ≤ X.2) (hX : X.2 < 2 ^ 31) (R : Rel h) (K : ∀ h2, Rel h2 → LG X i 1563 h2) : LG X i 1217 h := by
  have hA := c_X3_hold (X := X) (h := h) R.1 (s := X.1 (i + 1)) (d := X.1 (i + 2))
  have hB := c_X4_hold (X := X) (h := oC h (f_hold (h 1) (X.1 (i + 1)) (X.1 (i + 2)))) (by rw [oC_g _ _ (by decide) (by decide), R.2.1]; exact R.1) (s := X.1 (i + 1)) (d := X.1 (i + 2))
  rw [oC_g h _ (g := 11) (by decide) (by decide), R.2.1] at hB
  obtain ⟨h3, k⟩ := K _ (Rel_A R (F := (f_hold (h 1) (X.1 (i + 1)) (X.1 (i + 2)))) (ok_hold R.1))
  refine ⟨h3, ?_⟩
  refine g_aload_n dL_law_1217 rfl ?_
  refine g_aload_n dL_law_1218 rfl ?_
  refine g_iload_n dL_law_1219 rfl ?_
  refine g_iconst dL_law_1220 ic_1 ?_
  refine g_iadd dL_law_1221 ?_
  refine g_sld (i + 1) dL_law_1222 (sx_1 i) (by omega) hX ?_
  refine g_aload_n dL_law_1223 rfl ?_
  refine g_iload_n dL_law_1224 rfl ?_
  refine g_iconst dL_law_1225 ic_2 ?_
  refine g_iadd dL_law_1226 ?_
  refine g_sld (i + 2) dL_law_1227 (sx_2 i) (by omega) hX ?_
  refine g_callV2i (hA) mi_X3_hold mv_X3_hold ml_L_138 dL_law_1228 rfl rfl (by decide) (Nat.le_of_ble_eq_true rfl) (Nat.le_of_ble_eq_true rfl) ?_
  refine g_aload_n dL_law_1231 rfl ?_
  refine g_aload_n dL_law_1232 rfl ?_
  refine g_iload_n dL_law_1233 rfl ?_
  refine g_iconst dL_law_1234 ic_1 ?_
  refine g_iadd dL_law_1235 ?_
  refine g_sld (i + 1) dL_law_1236 (sx_1 i) (by omega) hX ?_
  refine g_aload_n dL_law_1237 rfl ?_
  refine g_iload_n dL_law_1238 rfl ?_
  refine g_iconst dL_law_1239 ic_2 ?_
  refine g_iadd dL_law_1240 ?_
  refine g_sld (i + 2) dL_law_1241 (sx_2 i) (by omega) hX ?_
  refine g_callV2i (hB) mi_X4_hold mv_X4_hold ml_L_141 dL_law_1242 rfl rfl (by decide) (Nat.le_of_ble_eq_true rfl) (Nat.le_of_ble_eq_true rfl) ?_
  refine g_icmp_eq 1563 dL_law_1245 (by decide) (fun c1245 => ?_) (fun c1245 => ?_)
  · exact k
  · exact absurd rfl c1245

set_option maxRecDepth 100000 in
set_option maxHeartbeats 4000000 in
theorem law_as {X : Sc} {i : Nat} {h : Hp} (hi : i + 6 ≤ X.2) (hX : X.2 < 2 ^ 31) (R : Rel h) (K : ∀ h2, Rel h2 → LG X i 1563 h2) : LG X i 1250 h := by
  have hA := c_X3_as (X := X) (h := h) R.1 (s := X.1 (i + 1)) (k := X.1 (i + 2))
  have hB := c_X4_as (X := X) (h := oC h (f_as (h 1) (X.1 (i + 1)) (X.1 (i + 2)))) (by rw [oC_g _ _ (by decide) (by decide), R.2.1]; exact R.1) (s := X.1 (i + 1)) (k := X.1 (i + 2))
  rw [oC_g h _ (g := 11) (by decide) (by decide), R.2.1] at hB
  obtain ⟨h3, k⟩ := K _ (Rel_A R (F := (f_as (h 1) (X.1 (i + 1)) (X.1 (i + 2)))) (ok_as R.1))
  refine ⟨h3, ?_⟩
  refine g_aload_n dL_law_1250 rfl ?_
  refine g_aload_n dL_law_1251 rfl ?_
  refine g_iload_n dL_law_1252 rfl ?_
  refine g_iconst dL_law_1253 ic_1 ?_
  refine g_iadd dL_law_1254 ?_
  refine g_sld (i + 1) dL_law_1255 (sx_1 i) (by omega) hX ?_
  refine g_aload_n dL_law_1256 rfl ?_
  refine g_iload_n dL_law_1257 rfl ?_
  refine g_iconst dL_law_1258 ic_2 ?_
  refine g_iadd dL_law_1259 ?_
  refine g_sld (i + 2) dL_law_1260 (sx_2 i) (by omega) hX ?_
  refine g_callV2i (hA) mi_X3_as mv_X3_as ml_L_142 dL_law_1261 rfl rfl (by decide) (Nat.le_of_ble_eq_true rfl) (Nat.le_of_ble_eq_true rfl) ?_
  refine g_aload_n dL_law_1264 rfl ?_
  refine g_aload_n dL_law_1265 rfl ?_
  refine g_iload_n dL_law_1266 rfl ?_
  refine g_iconst dL_law_1267 ic_1 ?_
  refine g_iadd dL_law_1268 ?_
  refine g_sld (i + 1) dL_law_1269 (sx_1 i) (by omega) hX ?_
  refine g_aload_n dL_law_1270 rfl ?_
  refine g_iload_n dL_law_1271 rfl ?_
  refine g_iconst dL_law_1272 ic_2 ?_
  refine g_iadd dL_law_1273 ?_
  refine g_sld (i + 2) dL_law_1274 (sx_2 i) (by omega) hX ?_
  refine g_callV2i (hB) mi_X4_as mv_X4_as ml_L_145 dL_law_1275 rfl rfl (by decide) (Nat.le_of_ble_eq_true rfl) (Nat.le_of_ble_eq_true rfl) ?_
  refine g_icmp_eq 1563 dL_law_1278 (by decide) (fun c1278 => ?_) (fun c1278 => ?_)
  · exact k
  · exact absurd rfl c1278

set_option maxRecDepth 100000 in
set_option maxHeartbeats 4000000 in
theorem law_sheet {X : Sc} {i : Nat} {h : Hp} (hi : i + 6 ≤ X.2) (hX : X.2 < 2 ^ 31) (R : Rel h) (K : ∀ h2, Rel h2 → LG X i 1563 h2) : LG X i 1283 h := by
  have hA := c_X3_sheet (X := X) (h := h) R.1 R.2.2.1 (s := X.1 (i + 1)) (b := X.1 (i + 2)) (n := X.1 (i + 3))
  have hB := c_X4_sheet (X := X) (h := oG 6 5 h (f_sheet (h 6) (X.1 (i + 1)) (X.1 (i + 2)) (X.1 (i + 3)))) (by rw [oG_g _ _ (by decide) (by decide), R.2.1]; exact R.1) (by rw [oG_g _ _ (by decide) (by decide), R.2.2.2.1]; exact R.2.2.1) (s := X.1 (i + 1)) (b := X.1 (i + 2)) (n := X.1 (i + 3))
  rw [oG_g h _ (g := 16) (by decide) (by decide), R.2.2.2.1] at hB
  obtain ⟨h3, k⟩ := K _ (Rel_C R (F := (f_sheet (h 6) (X.1 (i + 1)) (X.1 (i + 2)) (X.1 (i + 3)))) (ok_sheet R.2.2.1))
  refine ⟨h3, ?_⟩
  refine g_aload_n dL_law_1283 rfl ?_
  refine g_aload_n dL_law_1284 rfl ?_
  refine g_iload_n dL_law_1285 rfl ?_
  refine g_iconst dL_law_1286 ic_1 ?_
  refine g_iadd dL_law_1287 ?_
  refine g_sld (i + 1) dL_law_1288 (sx_1 i) (by omega) hX ?_
  refine g_aload_n dL_law_1289 rfl ?_
  refine g_iload_n dL_law_1290 rfl ?_
  refine g_iconst dL_law_1291 ic_2 ?_
  refine g_iadd dL_law_1292 ?_
  refine g_sld (i + 2) dL_law_1293 (sx_2 i) (by omega) hX ?_
  refine g_aload_n dL_law_1294 rfl ?_
  refine g_iload_n dL_law_1295 rfl ?_
  refine g_iconst dL_law_1296 ic_3 ?_
  refine g_iadd dL_law_1297 ?_
  refine g_sld (i + 3) dL_law_1298 (sx_3 i) (by omega) hX ?_
  refine g_callV3i (hA) mi_X3_sheet mv_X3_sheet ml_L_146 dL_law_1299 rfl rfl (by decide) (Nat.le_of_ble_eq_true rfl) (Nat.le_of_ble_eq_true rfl) ?_
  refine g_aload_n dL_law_1302 rfl ?_
  refine g_aload_n dL_law_1303 rfl ?_
  refine g_iload_n dL_law_1304 rfl ?_
  refine g_iconst dL_law_1305 ic_1 ?_
  refine g_iadd dL_law_1306 ?_
  refine g_sld (i + 1) dL_law_1307 (sx_1 i) (by omega) hX ?_
  refine g_aload_n dL_law_1308 rfl ?_
  refine g_iload_n dL_law_1309 rfl ?_
  refine g_iconst dL_law_1310 ic_2 ?_
  refine g_iadd dL_law_1311 ?_
  refine g_sld (i + 2) dL_law_1312 (sx_2 i) (by omega) hX ?_
  refine g_aload_n dL_law_1313 rfl ?_
  refine g_iload_n dL_law_1314 rfl ?_
  refine g_iconst dL_law_1315 ic_3 ?_
  refine g_iadd dL_law_1316 ?_
  refine g_sld (i + 3) dL_law_1317 (sx_3 i) (by omega) hX ?_
  refine g_callV3i (hB) mi_X4_sheet mv_X4_sheet ml_L_149 dL_law_1318 rfl rfl (by decide) (Nat.le_of_ble_eq_true rfl) (Nat.le_of_ble_eq_true rfl) ?_
  refine g_icmp_eq 1563 dL_law_1321 (by decide) (fun c1321 => ?_) (fun c1321 => ?_)
  · exact k
  · exact absurd rfl c1321

set_option maxRecDepth 100000 in
set_option maxHeartbeats 4000000 in
theorem law_write {X : Sc} {i : Nat} {h : Hp} (hi : i + 6 ≤ X.2) (hX : X.2 < 2 ^ 31) (R : Rel h) (K : ∀ h2, Rel h2 → LG X i 1563 h2) : LG X i 1326 h := by
  have hA := c_X3_write (X := X) (h := h) R.1 R.2.2.1 (s := X.1 (i + 1)) (i := X.1 (i + 2)) (v := X.1 (i + 3))
  have hB := c_X4_write (X := X) (h := oG 6 5 h (f_write (h 6) (X.1 (i + 1)) (X.1 (i + 2)) (X.1 (i + 3)))) (by rw [oG_g _ _ (by decide) (by decide), R.2.1]; exact R.1) (by rw [oG_g _ _ (by decide) (by decide), R.2.2.2.1]; exact R.2.2.1) (s := X.1 (i + 1)) (i := X.1 (i + 2)) (v := X.1 (i + 3))
  rw [oG_g h _ (g := 16) (by decide) (by decide), R.2.2.2.1] at hB
  obtain ⟨h3, k⟩ := K _ (Rel_C R (F := (f_write (h 6) (X.1 (i + 1)) (X.1 (i + 2)) (X.1 (i + 3)))) (ok_write R.2.2.1))
  refine ⟨h3, ?_⟩
  refine g_aload_n dL_law_1326 rfl ?_
  refine g_aload_n dL_law_1327 rfl ?_
  refine g_iload_n dL_law_1328 rfl ?_
  refine g_iconst dL_law_1329 ic_1 ?_
  refine g_iadd dL_law_1330 ?_
  refine g_sld (i + 1) dL_law_1331 (sx_1 i) (by omega) hX ?_
  refine g_aload_n dL_law_1332 rfl ?_
  refine g_iload_n dL_law_1333 rfl ?_
  refine g_iconst dL_law_1334 ic_2 ?_
  refine g_iadd dL_law_1335 ?_
  refine g_sld (i + 2) dL_law_1336 (sx_2 i) (by omega) hX ?_
  refine g_aload_n dL_law_1337 rfl ?_
  refine g_iload_n dL_law_1338 rfl ?_
  refine g_iconst dL_law_1339 ic_3 ?_
  refine g_iadd dL_law_1340 ?_
  refine g_sld (i + 3) dL_law_1341 (sx_3 i) (by omega) hX ?_
  refine g_callV3i (hA) mi_X3_write mv_X3_write ml_L_150 dL_law_1342 rfl rfl (by decide) (Nat.le_of_ble_eq_true rfl) (Nat.le_of_ble_eq_true rfl) ?_
  refine g_aload_n dL_law_1345 rfl ?_
  refine g_aload_n dL_law_1346 rfl ?_
  refine g_iload_n dL_law_1347 rfl ?_
  refine g_iconst dL_law_1348 ic_1 ?_
  refine g_iadd dL_law_1349 ?_
  refine g_sld (i + 1) dL_law_1350 (sx_1 i) (by omega) hX ?_
  refine g_aload_n dL_law_1351 rfl ?_
  refine g_iload_n dL_law_1352 rfl ?_
  refine g_iconst dL_law_1353 ic_2 ?_
  refine g_iadd dL_law_1354 ?_
  refine g_sld (i + 2) dL_law_1355 (sx_2 i) (by omega) hX ?_
  refine g_aload_n dL_law_1356 rfl ?_
  refine g_iload_n dL_law_1357 rfl ?_
  refine g_iconst dL_law_1358 ic_3 ?_
  refine g_iadd dL_law_1359 ?_
  refine g_sld (i + 3) dL_law_1360 (sx_3 i) (by omega) hX ?_
  refine g_callV3i (hB) mi_X4_write mv_X4_write ml_L_153 dL_law_1361 rfl rfl (by decide) (Nat.le_of_ble_eq_true rfl) (Nat.le_of_ble_eq_true rfl) ?_
  refine g_icmp_eq 1563 dL_law_1364 (by decide) (fun c1364 => ?_) (fun c1364 => ?_)
  · exact k
  · exact absurd rfl c1364

set_option maxRecDepth 100000 in
set_option maxHeartbeats 4000000 in
theorem law_copy {X : Sc} {i : Nat} {h : Hp} (hi : i + 6 ≤ X.2) (hX : X.2 < 2 ^ 31) (R : Rel h) (K : ∀ h2, Rel h2 → LG X i 1563 h2) : LG X i 1369 h := by
  have hA := c_X3_copy (X := X) (h := h) R.1 R.2.2.1 (s := X.1 (i + 1)) (a := X.1 (i + 2)) (t := X.1 (i + 3)) (b := X.1 (i + 4)) (n := X.1 (i + 5))
  have hB := c_X4_copy (X := X) (h := oG 6 5 h (f_copy (h 6) (X.1 (i + 1)) (X.1 (i + 2)) (X.1 (i + 3)) (X.1 (i + 4)) (X.1 (i + 5)))) (by rw [oG_g _ _ (by decide) (by decide), R.2.1]; exact R.1) (by rw [oG_g _ _ (by decide) (by decide), R.2.2.2.1]; exact R.2.2.1) (s := X.1 (i + 1)) (a := X.1 (i + 2)) (t := X.1 (i + 3)) (b := X.1 (i + 4)) (n := X.1 (i + 5))
  rw [oG_g h _ (g := 16) (by decide) (by decide), R.2.2.2.1] at hB
  obtain ⟨h3, k⟩ := K _ (Rel_C R (F := (f_copy (h 6) (X.1 (i + 1)) (X.1 (i + 2)) (X.1 (i + 3)) (X.1 (i + 4)) (X.1 (i + 5)))) (ok_copy R.2.2.1))
  refine ⟨h3, ?_⟩
  refine g_aload_n dL_law_1369 rfl ?_
  refine g_aload_n dL_law_1370 rfl ?_
  refine g_iload_n dL_law_1371 rfl ?_
  refine g_iconst dL_law_1372 ic_1 ?_
  refine g_iadd dL_law_1373 ?_
  refine g_sld (i + 1) dL_law_1374 (sx_1 i) (by omega) hX ?_
  refine g_aload_n dL_law_1375 rfl ?_
  refine g_iload_n dL_law_1376 rfl ?_
  refine g_iconst dL_law_1377 ic_2 ?_
  refine g_iadd dL_law_1378 ?_
  refine g_sld (i + 2) dL_law_1379 (sx_2 i) (by omega) hX ?_
  refine g_aload_n dL_law_1380 rfl ?_
  refine g_iload_n dL_law_1381 rfl ?_
  refine g_iconst dL_law_1382 ic_3 ?_
  refine g_iadd dL_law_1383 ?_
  refine g_sld (i + 3) dL_law_1384 (sx_3 i) (by omega) hX ?_
  refine g_aload_n dL_law_1385 rfl ?_
  refine g_iload_n dL_law_1386 rfl ?_
  refine g_iconst dL_law_1387 ic_4 ?_
  refine g_iadd dL_law_1388 ?_
  refine g_sld (i + 4) dL_law_1389 (sx_4 i) (by omega) hX ?_
  refine g_aload_n dL_law_1390 rfl ?_
  refine g_iload_n dL_law_1391 rfl ?_
  refine g_iconst dL_law_1392 ic_5 ?_
  refine g_iadd dL_law_1393 ?_
  refine g_sld (i + 5) dL_law_1394 (sx_5 i) (by omega) hX ?_
  refine g_callV5i (hA) mi_X3_copy mv_X3_copy ml_L_154 dL_law_1395 rfl rfl (by decide) (Nat.le_of_ble_eq_true rfl) (Nat.le_of_ble_eq_true rfl) ?_
  refine g_aload_n dL_law_1398 rfl ?_
  refine g_aload_n dL_law_1399 rfl ?_
  refine g_iload_n dL_law_1400 rfl ?_
  refine g_iconst dL_law_1401 ic_1 ?_
  refine g_iadd dL_law_1402 ?_
  refine g_sld (i + 1) dL_law_1403 (sx_1 i) (by omega) hX ?_
  refine g_aload_n dL_law_1404 rfl ?_
  refine g_iload_n dL_law_1405 rfl ?_
  refine g_iconst dL_law_1406 ic_2 ?_
  refine g_iadd dL_law_1407 ?_
  refine g_sld (i + 2) dL_law_1408 (sx_2 i) (by omega) hX ?_
  refine g_aload_n dL_law_1409 rfl ?_
  refine g_iload_n dL_law_1410 rfl ?_
  refine g_iconst dL_law_1411 ic_3 ?_
  refine g_iadd dL_law_1412 ?_
  refine g_sld (i + 3) dL_law_1413 (sx_3 i) (by omega) hX ?_
  refine g_aload_n dL_law_1414 rfl ?_
  refine g_iload_n dL_law_1415 rfl ?_
  refine g_iconst dL_law_1416 ic_4 ?_
  refine g_iadd dL_law_1417 ?_
  refine g_sld (i + 4) dL_law_1418 (sx_4 i) (by omega) hX ?_
  refine g_aload_n dL_law_1419 rfl ?_
  refine g_iload_n dL_law_1420 rfl ?_
  refine g_iconst dL_law_1421 ic_5 ?_
  refine g_iadd dL_law_1422 ?_
  refine g_sld (i + 5) dL_law_1423 (sx_5 i) (by omega) hX ?_
  refine g_callV5i (hB) mi_X4_copy mv_X4_copy ml_L_158 dL_law_1424 rfl rfl (by decide) (Nat.le_of_ble_eq_true rfl) (Nat.le_of_ble_eq_true rfl) ?_
  refine g_icmp_eq 1563 dL_law_1427 (by decide) (fun c1427 => ?_) (fun c1427 => ?_)
  · exact k
  · exact absurd rfl c1427

set_option maxRecDepth 100000 in
set_option maxHeartbeats 4000000 in
theorem law_load {X : Sc} {i : Nat} {h : Hp} (hi : i + 6 ≤ X.2) (hX : X.2 < 2 ^ 31) (R : Rel h) (K : ∀ h2, Rel h2 → LG X i 1563 h2) : LG X i 1432 h := by
  have hA := c_X3_load (X := X) (h := h) R.1 R.2.2.1 (s := X.1 (i + 1))
  have hB := c_X4_load (X := X) (h := oG 1 5 h (f_load (h 1) (h 6) (X.1 (i + 1)))) (by rw [oG_g _ _ (by decide) (by decide), R.2.1]; exact R.1) (by rw [oG_g _ _ (by decide) (by decide), R.2.2.2.1]; exact R.2.2.1) (s := X.1 (i + 1))
  rw [oG_g h _ (g := 16) (by decide) (by decide), oG_g h _ (g := 11) (by decide) (by decide), R.2.2.2.1, R.2.1] at hB
  obtain ⟨h3, k⟩ := K _ (Rel_D R (F := (f_load (h 1) (h 6) (X.1 (i + 1)))) (ok_load (sh := h 6) R.1))
  refine ⟨h3, ?_⟩
  refine g_aload_n dL_law_1432 rfl ?_
  refine g_aload_n dL_law_1433 rfl ?_
  refine g_iload_n dL_law_1434 rfl ?_
  refine g_iconst dL_law_1435 ic_1 ?_
  refine g_iadd dL_law_1436 ?_
  refine g_sld (i + 1) dL_law_1437 (sx_1 i) (by omega) hX ?_
  refine g_callV1i (hA) mi_X3_load mv_X3_load ml_L_159 dL_law_1438 rfl rfl (by decide) (Nat.le_of_ble_eq_true rfl) (Nat.le_of_ble_eq_true rfl) ?_
  refine g_aload_n dL_law_1441 rfl ?_
  refine g_aload_n dL_law_1442 rfl ?_
  refine g_iload_n dL_law_1443 rfl ?_
  refine g_iconst dL_law_1444 ic_1 ?_
  refine g_iadd dL_law_1445 ?_
  refine g_sld (i + 1) dL_law_1446 (sx_1 i) (by omega) hX ?_
  refine g_callV1i (hB) mi_X4_load mv_X4_load ml_L_162 dL_law_1447 rfl rfl (by decide) (Nat.le_of_ble_eq_true rfl) (Nat.le_of_ble_eq_true rfl) ?_
  refine g_icmp_eq 1563 dL_law_1450 (by decide) (fun c1450 => ?_) (fun c1450 => ?_)
  · exact k
  · exact absurd rfl c1450

set_option maxRecDepth 100000 in
set_option maxHeartbeats 4000000 in
theorem law_judge {X : Sc} {i : Nat} {h : Hp} (hi : i + 6 ≤ X.2) (hX : X.2 < 2 ^ 31) (R : Rel h) (K : ∀ h2, Rel h2 → LG X i 1563 h2) : LG X i 1455 h := by
  have hA := c_X3_judge (X := X) (h := h) R.1 R.2.2.1 (s := X.1 (i + 1))
  have hB := c_X4_judge (X := X) (h := oG 1 5 h (f_judge (h 1) (h 6) (X.1 (i + 1)))) (by rw [oG_g _ _ (by decide) (by decide), R.2.1]; exact R.1) (by rw [oG_g _ _ (by decide) (by decide), R.2.2.2.1]; exact R.2.2.1) (s := X.1 (i + 1))
  rw [oG_g h _ (g := 16) (by decide) (by decide), oG_g h _ (g := 11) (by decide) (by decide), R.2.2.2.1, R.2.1] at hB
  obtain ⟨h3, k⟩ := K _ (Rel_D R (F := (f_judge (h 1) (h 6) (X.1 (i + 1)))) (ok_judge (sh := h 6) R.1))
  refine ⟨h3, ?_⟩
  refine g_aload_n dL_law_1455 rfl ?_
  refine g_aload_n dL_law_1456 rfl ?_
  refine g_iload_n dL_law_1457 rfl ?_
  refine g_iconst dL_law_1458 ic_1 ?_
  refine g_iadd dL_law_1459 ?_
  refine g_sld (i + 1) dL_law_1460 (sx_1 i) (by omega) hX ?_
  refine g_callV1i (hA) mi_X3_judge mv_X3_judge ml_L_163 dL_law_1461 rfl rfl (by decide) (Nat.le_of_ble_eq_true rfl) (Nat.le_of_ble_eq_true rfl) ?_
  refine g_aload_n dL_law_1464 rfl ?_
  refine g_aload_n dL_law_1465 rfl ?_
  refine g_iload_n dL_law_1466 rfl ?_
  refine g_iconst dL_law_1467 ic_1 ?_
  refine g_iadd dL_law_1468 ?_
  refine g_sld (i + 1) dL_law_1469 (sx_1 i) (by omega) hX ?_
  refine g_callV1i (hB) mi_X4_judge mv_X4_judge ml_L_166 dL_law_1470 rfl rfl (by decide) (Nat.le_of_ble_eq_true rfl) (Nat.le_of_ble_eq_true rfl) ?_
  refine g_icmp_eq 1563 dL_law_1473 (by decide) (fun c1473 => ?_) (fun c1473 => ?_)
  · exact k
  · exact absurd rfl c1473

set_option maxRecDepth 100000 in
set_option maxHeartbeats 4000000 in
theorem law_image {X : Sc} {i : Nat} {h : Hp} (hi : i + 6 ≤ X.2) (hX : X.2 < 2 ^ 31) (R : Rel h) (K : ∀ h2, Rel h2 → LG X i 1563 h2) : LG X i 1478 h := by
  have hA := c_X3_image (X := X) (h := h)
  have hB := c_X4_image (X := X) (h := up (setg h 2 (h 1)) 0 0 1)
  rw [show up (setg h 2 (h 1)) 0 0 1 11 = h 1 from R.2.1] at hB
  obtain ⟨h3, k⟩ := K _ (Rel_image R)
  refine ⟨h3, ?_⟩
  refine g_aload_n dL_law_1478 rfl ?_
  refine g_callV0i (hA) mi_X3_image mv_X3_image ml_L_167 dL_law_1479 rfl rfl (by decide) (Nat.le_of_ble_eq_true rfl) (Nat.le_of_ble_eq_true rfl) ?_
  refine g_aload_n dL_law_1482 rfl ?_
  refine g_callV0i (hB) mi_X4_image mv_X4_image ml_L_170 dL_law_1483 rfl rfl (by decide) (Nat.le_of_ble_eq_true rfl) (Nat.le_of_ble_eq_true rfl) ?_
  refine g_icmp_eq 1563 dL_law_1486 (by decide) (fun c1486 => ?_) (fun c1486 => ?_)
  · exact k
  · exact absurd rfl c1486

set_option maxRecDepth 100000 in
set_option maxHeartbeats 4000000 in
theorem law_undo {X : Sc} {i : Nat} {h : Hp} (hi : i + 6 ≤ X.2) (hX : X.2 < 2 ^ 31) (R : Rel h) (K : ∀ h2, Rel h2 → LG X i 1563 h2) : LG X i 1491 h := by
  have hA := c_X3_undo (X := X) (h := h)
  have hB := c_X4_undo (X := X) (h := oG 1 5 h (f_undo (h 0 0) (h 2)))
  rw [oG_g h _ (g := 10) (by decide) (by decide), oG_g h _ (g := 12) (by decide) (by decide), undo_same R] at hB
  obtain ⟨h3, k⟩ := K _ (Rel_D R (ok_undo R))
  refine ⟨h3, ?_⟩
  refine g_aload_n dL_law_1491 rfl ?_
  refine g_callV0i (hA) mi_X3_undo mv_X3_undo ml_L_171 dL_law_1492 rfl rfl (by decide) (Nat.le_of_ble_eq_true rfl) (Nat.le_of_ble_eq_true rfl) ?_
  refine g_aload_n dL_law_1495 rfl ?_
  refine g_callV0i (hB) mi_X4_undo mv_X4_undo ml_L_174 dL_law_1496 rfl rfl (by decide) (Nat.le_of_ble_eq_true rfl) (Nat.le_of_ble_eq_true rfl) ?_
  refine g_icmp_eq 1563 dL_law_1499 (by decide) (fun c1499 => ?_) (fun c1499 => ?_)
  · exact k
  · exact absurd rfl c1499

set_option maxRecDepth 100000 in
set_option maxHeartbeats 4000000 in
theorem law_tear {X : Sc} {i : Nat} {h : Hp} (hi : i + 6 ≤ X.2) (hX : X.2 < 2 ^ 31) (R : Rel h) (K : ∀ h2, Rel h2 → LG X i 1563 h2) : LG X i 1504 h := by
  have hA := c_X3_tear (X := X) (h := h)
  have hB := c_X4_tear (X := X) (h := up h 0 0 0)
  rw [show up h 0 0 0 10 0 = h 0 0 from R.2.2.2.2.2.2.1] at hB
  obtain ⟨h3, k⟩ := K _ (Rel_tear R)
  refine ⟨h3, ?_⟩
  refine g_aload_n dL_law_1504 rfl ?_
  refine g_callV0i (hA) mi_X3_tear mv_X3_tear ml_L_175 dL_law_1505 rfl rfl (by decide) (Nat.le_of_ble_eq_true rfl) (Nat.le_of_ble_eq_true rfl) ?_
  refine g_aload_n dL_law_1508 rfl ?_
  refine g_callV0i (hB) mi_X4_tear mv_X4_tear ml_L_178 dL_law_1509 rfl rfl (by decide) (Nat.le_of_ble_eq_true rfl) (Nat.le_of_ble_eq_true rfl) ?_
  refine g_icmp_eq 1563 dL_law_1512 (by decide) (fun c1512 => ?_) (fun c1512 => ?_)
  · exact k
  · exact absurd rfl c1512

set_option maxRecDepth 100000 in
set_option maxHeartbeats 4000000 in
theorem law_count {X : Sc} {i : Nat} {h : Hp} (hi : i + 6 ≤ X.2) (hX : X.2 < 2 ^ 31) (R : Rel h) (K : ∀ h2, Rel h2 → LG X i 1563 h2) : LG X i 1517 h := by
  have hA := c_X3_count (X := X) (h := h) R.1 (k := X.1 (i + 1))
  have hB := c_X4_count (X := X) (h := oC h (f_count (h 1) (h 4 0) (X.1 (i + 1)))) (by rw [oC_g _ _ (by decide) (by decide), R.2.1]; exact R.1) (k := X.1 (i + 1))
  rw [oC_g h _ (g := 11) (by decide) (by decide), oC_g h _ (g := 14) (by decide) (by decide), R.2.1, R.2.2.2.2.2.1.2.1] at hB
  obtain ⟨h3, k⟩ := K _ (Rel_A R (F := (f_count (h 1) (h 4 0) (X.1 (i + 1)))) (ok_count (t := h 4 0) R.1))
  refine ⟨h3, ?_⟩
  refine g_aload_n dL_law_1517 rfl ?_
  refine g_aload_n dL_law_1518 rfl ?_
  refine g_iload_n dL_law_1519 rfl ?_
  refine g_iconst dL_law_1520 ic_1 ?_
  refine g_iadd dL_law_1521 ?_
  refine g_sld (i + 1) dL_law_1522 (sx_1 i) (by omega) hX ?_
  refine g_callV1i (hA) mi_X3_count mv_X3_count ml_L_179 dL_law_1523 rfl rfl (by decide) (Nat.le_of_ble_eq_true rfl) (Nat.le_of_ble_eq_true rfl) ?_
  refine g_aload_n dL_law_1526 rfl ?_
  refine g_aload_n dL_law_1527 rfl ?_
  refine g_iload_n dL_law_1528 rfl ?_
  refine g_iconst dL_law_1529 ic_1 ?_
  refine g_iadd dL_law_1530 ?_
  refine g_sld (i + 1) dL_law_1531 (sx_1 i) (by omega) hX ?_
  refine g_callV1i (hB) mi_X4_count mv_X4_count ml_L_182 dL_law_1532 rfl rfl (by decide) (Nat.le_of_ble_eq_true rfl) (Nat.le_of_ble_eq_true rfl) ?_
  refine g_icmp_eq 1563 dL_law_1535 (by decide) (fun c1535 => ?_) (fun c1535 => ?_)
  · exact k
  · exact absurd rfl c1535

set_option maxRecDepth 100000 in
set_option maxHeartbeats 4000000 in
theorem law_status {X : Sc} {i : Nat} {h : Hp} (hi : i + 6 ≤ X.2) (hX : X.2 < 2 ^ 31) (R : Rel h) (K : ∀ h2, Rel h2 → LG X i 1563 h2) : LG X i 1540 h := by
  have hA := c_X3_status (X := X) (h := h) (k := X.1 (i + 1))
  have hB := c_X4_status (X := X) (h := oG 5 5 h (f_status (h 5) (X.1 (i + 1)))) (k := X.1 (i + 1))
  rw [oG_g h _ (g := 15) (by decide) (by decide), R.2.2.2.2.1] at hB
  obtain ⟨h3, k⟩ := K _ (Rel_S R (F := f_status (h 5) (X.1 (i + 1))))
  refine ⟨h3, ?_⟩
  refine g_aload_n dL_law_1540 rfl ?_
  refine g_aload_n dL_law_1541 rfl ?_
  refine g_iload_n dL_law_1542 rfl ?_
  refine g_iconst dL_law_1543 ic_1 ?_
  refine g_iadd dL_law_1544 ?_
  refine g_sld (i + 1) dL_law_1545 (sx_1 i) (by omega) hX ?_
  refine g_callV1i (hA) mi_X3_status mv_X3_status ml_L_183 dL_law_1546 rfl rfl (by decide) (Nat.le_of_ble_eq_true rfl) (Nat.le_of_ble_eq_true rfl) ?_
  refine g_aload_n dL_law_1549 rfl ?_
  refine g_aload_n dL_law_1550 rfl ?_
  refine g_iload_n dL_law_1551 rfl ?_
  refine g_iconst dL_law_1552 ic_1 ?_
  refine g_iadd dL_law_1553 ?_
  refine g_sld (i + 1) dL_law_1554 (sx_1 i) (by omega) hX ?_
  refine g_callV1i (hB) mi_X4_status mv_X4_status ml_L_186 dL_law_1555 rfl rfl (by decide) (Nat.le_of_ble_eq_true rfl) (Nat.le_of_ble_eq_true rfl) ?_
  refine g_icmp_eq 1563 dL_law_1558 (by decide) (fun c1558 => ?_) (fun c1558 => ?_)
  · exact k
  · exact absurd rfl c1558

