/-! WHICH WORDS ARE AMONG THE TABLES', by their places -/
set_option maxRecDepth 100000 in
theorem iuX0 : ∀ w ∈ u_ws RX0 TX0 8, w ∈ gT := by decide +kernel
set_option maxRecDepth 100000 in
theorem iuX1 : ∀ w ∈ u_ws RX1 TX1 3, w ∈ gT := by decide +kernel
set_option maxRecDepth 100000 in
theorem iuX2 : ∀ w ∈ u_ws RX2 TX2 6, w ∈ gT := by decide +kernel
set_option maxRecDepth 100000 in
theorem iuX3 : ∀ w ∈ u_ws RX3 TX3 7, w ∈ gT := by decide +kernel
set_option maxRecDepth 100000 in
theorem iuX4 : ∀ w ∈ u_ws RX4 TX4 15, w ∈ gT := by decide +kernel
theorem mi_X3_init : MI yX3_init cX3_init 2 none 0 := ⟨gT_in (List.mem_of_getElem? (i := 70) (by decide +kernel)) (by decide +kernel), gT_in (List.mem_of_getElem? (i := 54) (by decide +kernel)) (by decide +kernel), by decide +kernel, by decide +kernel, by decide +kernel, by decide⟩
theorem mi_X0_init : MI yX0_init cX0_init 2 none 0 := ⟨gT_in (List.mem_of_getElem? (i := 78) (by decide +kernel)) (by decide +kernel), gT_in (List.mem_of_getElem? (i := 55) (by decide +kernel)) (by decide +kernel), by decide +kernel, by decide +kernel, by decide +kernel, by decide⟩
theorem mi_X2_init : MI yX2_init cX2_init 1 none 0 := ⟨gT_in (List.mem_of_getElem? (i := 118) (by decide +kernel)) (by decide +kernel), gT_in (List.mem_of_getElem? (i := 56) (by decide +kernel)) (by decide +kernel), by decide +kernel, by decide +kernel, by decide +kernel, by decide⟩
theorem mi_X1_init : MI yX1_init cX1_init 1 none 0 := ⟨gT_in (List.mem_of_getElem? (i := 146) (by decide +kernel)) (by decide +kernel), gT_in (List.mem_of_getElem? (i := 57) (by decide +kernel)) (by decide +kernel), by decide +kernel, by decide +kernel, by decide +kernel, by decide⟩
theorem mi_X3_list : MI yX3_list cX3_list 5 (some .int) 3 := ⟨gT_in (List.mem_of_getElem? (i := 186) (by decide +kernel)) (by decide +kernel), gT_in (List.mem_of_getElem? (i := 54) (by decide +kernel)) (by decide +kernel), by decide +kernel, by decide +kernel, by decide +kernel, by decide⟩
theorem mv_X3_list : MV yX3_list := ⟨gT_in (List.mem_of_getElem? (i := 184) (by decide +kernel)) (by decide +kernel), gT_in (List.mem_of_getElem? (i := 185) (by decide +kernel)) (by decide +kernel)⟩
theorem mi_X3_isPlace : MI yX3_isPlace cX3_isPlace 1 (some .boolean) 1 := ⟨gT_in (List.mem_of_getElem? (i := 189) (by decide +kernel)) (by decide +kernel), gT_in (List.mem_of_getElem? (i := 54) (by decide +kernel)) (by decide +kernel), by decide +kernel, by decide +kernel, by decide +kernel, by decide⟩
theorem ms_X3_isPlace : Cond.static yX3_isPlace ∈ gT := gT_in (List.mem_of_getElem? (i := 188) (by decide +kernel)) (by decide +kernel)
theorem mi_X3_within : MI yX3_within cX3_within 3 (some .boolean) 3 := ⟨gT_in (List.mem_of_getElem? (i := 192) (by decide +kernel)) (by decide +kernel), gT_in (List.mem_of_getElem? (i := 54) (by decide +kernel)) (by decide +kernel), by decide +kernel, by decide +kernel, by decide +kernel, by decide⟩
theorem ms_X3_within : Cond.static yX3_within ∈ gT := gT_in (List.mem_of_getElem? (i := 191) (by decide +kernel)) (by decide +kernel)
theorem mi_X3_found : MI yX3_found cX3_found 3 (some .int) 1 := ⟨gT_in (List.mem_of_getElem? (i := 197) (by decide +kernel)) (by decide +kernel), gT_in (List.mem_of_getElem? (i := 54) (by decide +kernel)) (by decide +kernel), by decide +kernel, by decide +kernel, by decide +kernel, by decide⟩
theorem mv_X3_found : MV yX3_found := ⟨gT_in (List.mem_of_getElem? (i := 196) (by decide +kernel)) (by decide +kernel), gT_in (List.mem_of_getElem? (i := 0) (by decide +kernel)) (by decide +kernel)⟩
theorem mi_X0_planMeal : MI yX0_planMeal cX0_planMeal 4 none 3 := ⟨gT_in (List.mem_of_getElem? (i := 201) (by decide +kernel)) (by decide +kernel), gT_in (List.mem_of_getElem? (i := 55) (by decide +kernel)) (by decide +kernel), by decide +kernel, by decide +kernel, by decide +kernel, by decide⟩
theorem mv_X0_planMeal : MV yX0_planMeal := ⟨gT_in (List.mem_of_getElem? (i := 199) (by decide +kernel)) (by decide +kernel), gT_in (List.mem_of_getElem? (i := 200) (by decide +kernel)) (by decide +kernel)⟩
theorem mi_X3_listed : MI yX3_listed cX3_listed 2 (some .int) 1 := ⟨gT_in (List.mem_of_getElem? (i := 205) (by decide +kernel)) (by decide +kernel), gT_in (List.mem_of_getElem? (i := 54) (by decide +kernel)) (by decide +kernel), by decide +kernel, by decide +kernel, by decide +kernel, by decide⟩
theorem mv_X3_listed : MV yX3_listed := ⟨gT_in (List.mem_of_getElem? (i := 203) (by decide +kernel)) (by decide +kernel), gT_in (List.mem_of_getElem? (i := 204) (by decide +kernel)) (by decide +kernel)⟩
theorem mi_X3_dish : MI yX3_dish cX3_dish 4 (some .int) 3 := ⟨gT_in (List.mem_of_getElem? (i := 209) (by decide +kernel)) (by decide +kernel), gT_in (List.mem_of_getElem? (i := 54) (by decide +kernel)) (by decide +kernel), by decide +kernel, by decide +kernel, by decide +kernel, by decide⟩
theorem mv_X3_dish : MV yX3_dish := ⟨gT_in (List.mem_of_getElem? (i := 207) (by decide +kernel)) (by decide +kernel), gT_in (List.mem_of_getElem? (i := 208) (by decide +kernel)) (by decide +kernel)⟩
theorem mi_X3_isKind : MI yX3_isKind cX3_isKind 1 (some .boolean) 1 := ⟨gT_in (List.mem_of_getElem? (i := 212) (by decide +kernel)) (by decide +kernel), gT_in (List.mem_of_getElem? (i := 54) (by decide +kernel)) (by decide +kernel), by decide +kernel, by decide +kernel, by decide +kernel, by decide⟩
theorem ms_X3_isKind : Cond.static yX3_isKind ∈ gT := gT_in (List.mem_of_getElem? (i := 211) (by decide +kernel)) (by decide +kernel)
theorem mi_X3_isTown : MI yX3_isTown cX3_isTown 1 (some .boolean) 1 := ⟨gT_in (List.mem_of_getElem? (i := 215) (by decide +kernel)) (by decide +kernel), gT_in (List.mem_of_getElem? (i := 54) (by decide +kernel)) (by decide +kernel), by decide +kernel, by decide +kernel, by decide +kernel, by decide⟩
theorem ms_X3_isTown : Cond.static yX3_isTown ∈ gT := gT_in (List.mem_of_getElem? (i := 214) (by decide +kernel)) (by decide +kernel)
theorem mi_X0_addDish : MI yX0_addDish cX0_addDish 5 (some .int) 3 := ⟨gT_in (List.mem_of_getElem? (i := 220) (by decide +kernel)) (by decide +kernel), gT_in (List.mem_of_getElem? (i := 55) (by decide +kernel)) (by decide +kernel), by decide +kernel, by decide +kernel, by decide +kernel, by decide⟩
theorem mv_X0_addDish : MV yX0_addDish := ⟨gT_in (List.mem_of_getElem? (i := 218) (by decide +kernel)) (by decide +kernel), gT_in (List.mem_of_getElem? (i := 219) (by decide +kernel)) (by decide +kernel)⟩
theorem mi_X0_putDishFact : MI yX0_putDishFact cX0_putDishFact 4 none 3 := ⟨gT_in (List.mem_of_getElem? (i := 224) (by decide +kernel)) (by decide +kernel), gT_in (List.mem_of_getElem? (i := 55) (by decide +kernel)) (by decide +kernel), by decide +kernel, by decide +kernel, by decide +kernel, by decide⟩
theorem mv_X0_putDishFact : MV yX0_putDishFact := ⟨gT_in (List.mem_of_getElem? (i := 222) (by decide +kernel)) (by decide +kernel), gT_in (List.mem_of_getElem? (i := 223) (by decide +kernel)) (by decide +kernel)⟩
theorem mi_X3_guest : MI yX3_guest cX3_guest 2 (some .int) 1 := ⟨gT_in (List.mem_of_getElem? (i := 228) (by decide +kernel)) (by decide +kernel), gT_in (List.mem_of_getElem? (i := 54) (by decide +kernel)) (by decide +kernel), by decide +kernel, by decide +kernel, by decide +kernel, by decide⟩
theorem mv_X3_guest : MV yX3_guest := ⟨gT_in (List.mem_of_getElem? (i := 226) (by decide +kernel)) (by decide +kernel), gT_in (List.mem_of_getElem? (i := 227) (by decide +kernel)) (by decide +kernel)⟩
theorem mi_X3_isBent : MI yX3_isBent cX3_isBent 1 (some .boolean) 1 := ⟨gT_in (List.mem_of_getElem? (i := 231) (by decide +kernel)) (by decide +kernel), gT_in (List.mem_of_getElem? (i := 54) (by decide +kernel)) (by decide +kernel), by decide +kernel, by decide +kernel, by decide +kernel, by decide⟩
theorem ms_X3_isBent : Cond.static yX3_isBent ∈ gT := gT_in (List.mem_of_getElem? (i := 230) (by decide +kernel)) (by decide +kernel)
theorem mi_X0_addGuest : MI yX0_addGuest cX0_addGuest 3 (some .int) 1 := ⟨gT_in (List.mem_of_getElem? (i := 235) (by decide +kernel)) (by decide +kernel), gT_in (List.mem_of_getElem? (i := 55) (by decide +kernel)) (by decide +kernel), by decide +kernel, by decide +kernel, by decide +kernel, by decide⟩
theorem mv_X0_addGuest : MV yX0_addGuest := ⟨gT_in (List.mem_of_getElem? (i := 233) (by decide +kernel)) (by decide +kernel), gT_in (List.mem_of_getElem? (i := 234) (by decide +kernel)) (by decide +kernel)⟩
theorem mi_X0_putGuestFact : MI yX0_putGuestFact cX0_putGuestFact 4 none 3 := ⟨gT_in (List.mem_of_getElem? (i := 239) (by decide +kernel)) (by decide +kernel), gT_in (List.mem_of_getElem? (i := 55) (by decide +kernel)) (by decide +kernel), by decide +kernel, by decide +kernel, by decide +kernel, by decide⟩
theorem mv_X0_putGuestFact : MV yX0_putGuestFact := ⟨gT_in (List.mem_of_getElem? (i := 237) (by decide +kernel)) (by decide +kernel), gT_in (List.mem_of_getElem? (i := 238) (by decide +kernel)) (by decide +kernel)⟩
theorem mi_X3_of : MI yX3_of cX3_of 3 (some .int) 2 := ⟨gT_in (List.mem_of_getElem? (i := 243) (by decide +kernel)) (by decide +kernel), gT_in (List.mem_of_getElem? (i := 54) (by decide +kernel)) (by decide +kernel), by decide +kernel, by decide +kernel, by decide +kernel, by decide⟩
theorem mv_X3_of : MV yX3_of := ⟨gT_in (List.mem_of_getElem? (i := 241) (by decide +kernel)) (by decide +kernel), gT_in (List.mem_of_getElem? (i := 242) (by decide +kernel)) (by decide +kernel)⟩
theorem mi_X0_isDish : MI yX0_isDish cX0_isDish 2 (some .boolean) 1 := ⟨gT_in (List.mem_of_getElem? (i := 247) (by decide +kernel)) (by decide +kernel), gT_in (List.mem_of_getElem? (i := 55) (by decide +kernel)) (by decide +kernel), by decide +kernel, by decide +kernel, by decide +kernel, by decide⟩
theorem mv_X0_isDish : MV yX0_isDish := ⟨gT_in (List.mem_of_getElem? (i := 245) (by decide +kernel)) (by decide +kernel), gT_in (List.mem_of_getElem? (i := 246) (by decide +kernel)) (by decide +kernel)⟩
theorem mi_X0_dishFact : MI yX0_dishFact cX0_dishFact 3 (some .int) 2 := ⟨gT_in (List.mem_of_getElem? (i := 251) (by decide +kernel)) (by decide +kernel), gT_in (List.mem_of_getElem? (i := 55) (by decide +kernel)) (by decide +kernel), by decide +kernel, by decide +kernel, by decide +kernel, by decide⟩
theorem mv_X0_dishFact : MV yX0_dishFact := ⟨gT_in (List.mem_of_getElem? (i := 249) (by decide +kernel)) (by decide +kernel), gT_in (List.mem_of_getElem? (i := 250) (by decide +kernel)) (by decide +kernel)⟩
theorem mi_X3_change : MI yX3_change cX3_change 5 (some .int) 3 := ⟨gT_in (List.mem_of_getElem? (i := 255) (by decide +kernel)) (by decide +kernel), gT_in (List.mem_of_getElem? (i := 54) (by decide +kernel)) (by decide +kernel), by decide +kernel, by decide +kernel, by decide +kernel, by decide⟩
theorem mv_X3_change : MV yX3_change := ⟨gT_in (List.mem_of_getElem? (i := 253) (by decide +kernel)) (by decide +kernel), gT_in (List.mem_of_getElem? (i := 254) (by decide +kernel)) (by decide +kernel)⟩
theorem mi_X3_ofGuest : MI yX3_ofGuest cX3_ofGuest 3 (some .int) 2 := ⟨gT_in (List.mem_of_getElem? (i := 262) (by decide +kernel)) (by decide +kernel), gT_in (List.mem_of_getElem? (i := 54) (by decide +kernel)) (by decide +kernel), by decide +kernel, by decide +kernel, by decide +kernel, by decide⟩
theorem mv_X3_ofGuest : MV yX3_ofGuest := ⟨gT_in (List.mem_of_getElem? (i := 260) (by decide +kernel)) (by decide +kernel), gT_in (List.mem_of_getElem? (i := 261) (by decide +kernel)) (by decide +kernel)⟩
theorem mi_X0_isGuest : MI yX0_isGuest cX0_isGuest 2 (some .boolean) 1 := ⟨gT_in (List.mem_of_getElem? (i := 266) (by decide +kernel)) (by decide +kernel), gT_in (List.mem_of_getElem? (i := 55) (by decide +kernel)) (by decide +kernel), by decide +kernel, by decide +kernel, by decide +kernel, by decide⟩
theorem mv_X0_isGuest : MV yX0_isGuest := ⟨gT_in (List.mem_of_getElem? (i := 264) (by decide +kernel)) (by decide +kernel), gT_in (List.mem_of_getElem? (i := 265) (by decide +kernel)) (by decide +kernel)⟩
theorem mi_X3_isGuestFact : MI yX3_isGuestFact cX3_isGuestFact 1 (some .boolean) 1 := ⟨gT_in (List.mem_of_getElem? (i := 269) (by decide +kernel)) (by decide +kernel), gT_in (List.mem_of_getElem? (i := 54) (by decide +kernel)) (by decide +kernel), by decide +kernel, by decide +kernel, by decide +kernel, by decide⟩
theorem ms_X3_isGuestFact : Cond.static yX3_isGuestFact ∈ gT := gT_in (List.mem_of_getElem? (i := 268) (by decide +kernel)) (by decide +kernel)
theorem mi_X0_guestFact : MI yX0_guestFact cX0_guestFact 3 (some .int) 2 := ⟨gT_in (List.mem_of_getElem? (i := 273) (by decide +kernel)) (by decide +kernel), gT_in (List.mem_of_getElem? (i := 55) (by decide +kernel)) (by decide +kernel), by decide +kernel, by decide +kernel, by decide +kernel, by decide⟩
theorem mv_X0_guestFact : MV yX0_guestFact := ⟨gT_in (List.mem_of_getElem? (i := 271) (by decide +kernel)) (by decide +kernel), gT_in (List.mem_of_getElem? (i := 272) (by decide +kernel)) (by decide +kernel)⟩
theorem mi_X3_seat : MI yX3_seat cX3_seat 5 (some .int) 3 := ⟨gT_in (List.mem_of_getElem? (i := 277) (by decide +kernel)) (by decide +kernel), gT_in (List.mem_of_getElem? (i := 54) (by decide +kernel)) (by decide +kernel), by decide +kernel, by decide +kernel, by decide +kernel, by decide⟩
theorem mv_X3_seat : MV yX3_seat := ⟨gT_in (List.mem_of_getElem? (i := 275) (by decide +kernel)) (by decide +kernel), gT_in (List.mem_of_getElem? (i := 276) (by decide +kernel)) (by decide +kernel)⟩
theorem mi_X3_would : MI yX3_would cX3_would 5 (some .int) 3 := ⟨gT_in (List.mem_of_getElem? (i := 284) (by decide +kernel)) (by decide +kernel), gT_in (List.mem_of_getElem? (i := 54) (by decide +kernel)) (by decide +kernel), by decide +kernel, by decide +kernel, by decide +kernel, by decide⟩
theorem mv_X3_would : MV yX3_would := ⟨gT_in (List.mem_of_getElem? (i := 282) (by decide +kernel)) (by decide +kernel), gT_in (List.mem_of_getElem? (i := 283) (by decide +kernel)) (by decide +kernel)⟩
theorem mi_X0_takesLeft : MI yX0_takesLeft cX0_takesLeft 6 (some .boolean) 2 := ⟨gT_in (List.mem_of_getElem? (i := 288) (by decide +kernel)) (by decide +kernel), gT_in (List.mem_of_getElem? (i := 55) (by decide +kernel)) (by decide +kernel), by decide +kernel, by decide +kernel, by decide +kernel, by decide⟩
theorem mv_X0_takesLeft : MV yX0_takesLeft := ⟨gT_in (List.mem_of_getElem? (i := 286) (by decide +kernel)) (by decide +kernel), gT_in (List.mem_of_getElem? (i := 287) (by decide +kernel)) (by decide +kernel)⟩
theorem mi_X0_anotherIsFor : MI yX0_anotherIsFor cX0_anotherIsFor 4 (some .boolean) 2 := ⟨gT_in (List.mem_of_getElem? (i := 294) (by decide +kernel)) (by decide +kernel), gT_in (List.mem_of_getElem? (i := 55) (by decide +kernel)) (by decide +kernel), by decide +kernel, by decide +kernel, by decide +kernel, by decide⟩
theorem mv_X0_anotherIsFor : MV yX0_anotherIsFor := ⟨gT_in (List.mem_of_getElem? (i := 292) (by decide +kernel)) (by decide +kernel), gT_in (List.mem_of_getElem? (i := 293) (by decide +kernel)) (by decide +kernel)⟩
theorem mi_X0_costOf : MI yX0_costOf cX0_costOf 6 (some .int) 3 := ⟨gT_in (List.mem_of_getElem? (i := 298) (by decide +kernel)) (by decide +kernel), gT_in (List.mem_of_getElem? (i := 55) (by decide +kernel)) (by decide +kernel), by decide +kernel, by decide +kernel, by decide +kernel, by decide⟩
theorem mv_X0_costOf : MV yX0_costOf := ⟨gT_in (List.mem_of_getElem? (i := 296) (by decide +kernel)) (by decide +kernel), gT_in (List.mem_of_getElem? (i := 297) (by decide +kernel)) (by decide +kernel)⟩
theorem mm_maxS : Cond.static Lib.Math.max.name ∈ gT := gT_in (List.mem_of_getElem? (i := 300) (by decide +kernel)) (by decide +kernel)
theorem mm_maxC : Cond.code Lib.Math.max.name Lib.Math.max.code 2 (some .int) ∈ gT := gT_in (List.mem_of_getElem? (i := 301) (by decide +kernel)) (by decide +kernel)
theorem mi_X0_bendOf : MI yX0_bendOf cX0_bendOf 3 (some .int) 2 := ⟨gT_in (List.mem_of_getElem? (i := 304) (by decide +kernel)) (by decide +kernel), gT_in (List.mem_of_getElem? (i := 55) (by decide +kernel)) (by decide +kernel), by decide +kernel, by decide +kernel, by decide +kernel, by decide⟩
theorem ms_X0_bendOf : Cond.static yX0_bendOf ∈ gT := gT_in (List.mem_of_getElem? (i := 303) (by decide +kernel)) (by decide +kernel)
theorem mi_X0_townOf : MI yX0_townOf cX0_townOf 3 (some .int) 2 := ⟨gT_in (List.mem_of_getElem? (i := 308) (by decide +kernel)) (by decide +kernel), gT_in (List.mem_of_getElem? (i := 55) (by decide +kernel)) (by decide +kernel), by decide +kernel, by decide +kernel, by decide +kernel, by decide⟩
theorem mv_X0_townOf : MV yX0_townOf := ⟨gT_in (List.mem_of_getElem? (i := 306) (by decide +kernel)) (by decide +kernel), gT_in (List.mem_of_getElem? (i := 307) (by decide +kernel)) (by decide +kernel)⟩
theorem mi_X3_eat : MI yX3_eat cX3_eat 3 (some .int) 2 := ⟨gT_in (List.mem_of_getElem? (i := 312) (by decide +kernel)) (by decide +kernel), gT_in (List.mem_of_getElem? (i := 54) (by decide +kernel)) (by decide +kernel), by decide +kernel, by decide +kernel, by decide +kernel, by decide⟩
theorem mv_X3_eat : MV yX3_eat := ⟨gT_in (List.mem_of_getElem? (i := 310) (by decide +kernel)) (by decide +kernel), gT_in (List.mem_of_getElem? (i := 311) (by decide +kernel)) (by decide +kernel)⟩
theorem mi_X0_isOff : MI yX0_isOff cX0_isOff 2 (some .boolean) 1 := ⟨gT_in (List.mem_of_getElem? (i := 316) (by decide +kernel)) (by decide +kernel), gT_in (List.mem_of_getElem? (i := 55) (by decide +kernel)) (by decide +kernel), by decide +kernel, by decide +kernel, by decide +kernel, by decide⟩
theorem mv_X0_isOff : MV yX0_isOff := ⟨gT_in (List.mem_of_getElem? (i := 314) (by decide +kernel)) (by decide +kernel), gT_in (List.mem_of_getElem? (i := 315) (by decide +kernel)) (by decide +kernel)⟩
theorem mi_X0_haveMeal : MI yX0_haveMeal cX0_haveMeal 6 none 2 := ⟨gT_in (List.mem_of_getElem? (i := 321) (by decide +kernel)) (by decide +kernel), gT_in (List.mem_of_getElem? (i := 55) (by decide +kernel)) (by decide +kernel), by decide +kernel, by decide +kernel, by decide +kernel, by decide⟩
theorem mv_X0_haveMeal : MV yX0_haveMeal := ⟨gT_in (List.mem_of_getElem? (i := 319) (by decide +kernel)) (by decide +kernel), gT_in (List.mem_of_getElem? (i := 320) (by decide +kernel)) (by decide +kernel)⟩
theorem mm_minS : Cond.static Lib.Math.min.name ∈ gT := gT_in (List.mem_of_getElem? (i := 327) (by decide +kernel)) (by decide +kernel)
theorem mm_minC : Cond.code Lib.Math.min.name Lib.Math.min.code 2 (some .int) ∈ gT := gT_in (List.mem_of_getElem? (i := 328) (by decide +kernel)) (by decide +kernel)
theorem mi_X0_bendGuest : MI yX0_bendGuest cX0_bendGuest 4 none 2 := ⟨gT_in (List.mem_of_getElem? (i := 333) (by decide +kernel)) (by decide +kernel), gT_in (List.mem_of_getElem? (i := 55) (by decide +kernel)) (by decide +kernel), by decide +kernel, by decide +kernel, by decide +kernel, by decide⟩
theorem mv_X0_bendGuest : MV yX0_bendGuest := ⟨gT_in (List.mem_of_getElem? (i := 331) (by decide +kernel)) (by decide +kernel), gT_in (List.mem_of_getElem? (i := 332) (by decide +kernel)) (by decide +kernel)⟩
theorem mi_X0_serveOnce : MI yX0_serveOnce cX0_serveOnce 2 none 1 := ⟨gT_in (List.mem_of_getElem? (i := 337) (by decide +kernel)) (by decide +kernel), gT_in (List.mem_of_getElem? (i := 55) (by decide +kernel)) (by decide +kernel), by decide +kernel, by decide +kernel, by decide +kernel, by decide⟩
theorem mv_X0_serveOnce : MV yX0_serveOnce := ⟨gT_in (List.mem_of_getElem? (i := 335) (by decide +kernel)) (by decide +kernel), gT_in (List.mem_of_getElem? (i := 336) (by decide +kernel)) (by decide +kernel)⟩
theorem mi_X3_go : MI yX3_go cX3_go 2 (some .int) 1 := ⟨gT_in (List.mem_of_getElem? (i := 341) (by decide +kernel)) (by decide +kernel), gT_in (List.mem_of_getElem? (i := 54) (by decide +kernel)) (by decide +kernel), by decide +kernel, by decide +kernel, by decide +kernel, by decide⟩
theorem mv_X3_go : MV yX3_go := ⟨gT_in (List.mem_of_getElem? (i := 339) (by decide +kernel)) (by decide +kernel), gT_in (List.mem_of_getElem? (i := 340) (by decide +kernel)) (by decide +kernel)⟩
theorem mi_X0_passDays : MI yX0_passDays cX0_passDays 3 none 1 := ⟨gT_in (List.mem_of_getElem? (i := 346) (by decide +kernel)) (by decide +kernel), gT_in (List.mem_of_getElem? (i := 55) (by decide +kernel)) (by decide +kernel), by decide +kernel, by decide +kernel, by decide +kernel, by decide⟩
theorem mv_X0_passDays : MV yX0_passDays := ⟨gT_in (List.mem_of_getElem? (i := 344) (by decide +kernel)) (by decide +kernel), gT_in (List.mem_of_getElem? (i := 345) (by decide +kernel)) (by decide +kernel)⟩
theorem mi_X0_passDay : MI yX0_passDay cX0_passDay 4 none 0 := ⟨gT_in (List.mem_of_getElem? (i := 350) (by decide +kernel)) (by decide +kernel), gT_in (List.mem_of_getElem? (i := 55) (by decide +kernel)) (by decide +kernel), by decide +kernel, by decide +kernel, by decide +kernel, by decide⟩
theorem mv_X0_passDay : MV yX0_passDay := ⟨gT_in (List.mem_of_getElem? (i := 348) (by decide +kernel)) (by decide +kernel), gT_in (List.mem_of_getElem? (i := 349) (by decide +kernel)) (by decide +kernel)⟩
theorem mi_X0_guestOfMeal : MI yX0_guestOfMeal cX0_guestOfMeal 1 (some .int) 1 := ⟨gT_in (List.mem_of_getElem? (i := 353) (by decide +kernel)) (by decide +kernel), gT_in (List.mem_of_getElem? (i := 55) (by decide +kernel)) (by decide +kernel), by decide +kernel, by decide +kernel, by decide +kernel, by decide⟩
theorem ms_X0_guestOfMeal : Cond.static yX0_guestOfMeal ∈ gT := gT_in (List.mem_of_getElem? (i := 352) (by decide +kernel)) (by decide +kernel)
theorem mi_X0_dishOfMeal : MI yX0_dishOfMeal cX0_dishOfMeal 1 (some .int) 1 := ⟨gT_in (List.mem_of_getElem? (i := 356) (by decide +kernel)) (by decide +kernel), gT_in (List.mem_of_getElem? (i := 55) (by decide +kernel)) (by decide +kernel), by decide +kernel, by decide +kernel, by decide +kernel, by decide⟩
theorem ms_X0_dishOfMeal : Cond.static yX0_dishOfMeal ∈ gT := gT_in (List.mem_of_getElem? (i := 355) (by decide +kernel)) (by decide +kernel)
theorem mi_X0_billSum : MI yX0_billSum cX0_billSum 3 (some .int) 0 := ⟨gT_in (List.mem_of_getElem? (i := 364) (by decide +kernel)) (by decide +kernel), gT_in (List.mem_of_getElem? (i := 55) (by decide +kernel)) (by decide +kernel), by decide +kernel, by decide +kernel, by decide +kernel, by decide⟩
theorem mv_X0_billSum : MV yX0_billSum := ⟨gT_in (List.mem_of_getElem? (i := 362) (by decide +kernel)) (by decide +kernel), gT_in (List.mem_of_getElem? (i := 363) (by decide +kernel)) (by decide +kernel)⟩
theorem mi_X3_now : MI yX3_now cX3_now 2 (some .int) 1 := ⟨gT_in (List.mem_of_getElem? (i := 368) (by decide +kernel)) (by decide +kernel), gT_in (List.mem_of_getElem? (i := 54) (by decide +kernel)) (by decide +kernel), by decide +kernel, by decide +kernel, by decide +kernel, by decide⟩
theorem mv_X3_now : MV yX3_now := ⟨gT_in (List.mem_of_getElem? (i := 366) (by decide +kernel)) (by decide +kernel), gT_in (List.mem_of_getElem? (i := 367) (by decide +kernel)) (by decide +kernel)⟩
theorem mi_X0_townsAimedAt : MI yX0_townsAimedAt cX0_townsAimedAt 3 (some .int) 0 := ⟨gT_in (List.mem_of_getElem? (i := 372) (by decide +kernel)) (by decide +kernel), gT_in (List.mem_of_getElem? (i := 55) (by decide +kernel)) (by decide +kernel), by decide +kernel, by decide +kernel, by decide +kernel, by decide⟩
theorem mv_X0_townsAimedAt : MV yX0_townsAimedAt := ⟨gT_in (List.mem_of_getElem? (i := 370) (by decide +kernel)) (by decide +kernel), gT_in (List.mem_of_getElem? (i := 371) (by decide +kernel)) (by decide +kernel)⟩
theorem mi_X0_townsBeenIn : MI yX0_townsBeenIn cX0_townsBeenIn 3 (some .int) 0 := ⟨gT_in (List.mem_of_getElem? (i := 376) (by decide +kernel)) (by decide +kernel), gT_in (List.mem_of_getElem? (i := 55) (by decide +kernel)) (by decide +kernel), by decide +kernel, by decide +kernel, by decide +kernel, by decide⟩
theorem mv_X0_townsBeenIn : MV yX0_townsBeenIn := ⟨gT_in (List.mem_of_getElem? (i := 374) (by decide +kernel)) (by decide +kernel), gT_in (List.mem_of_getElem? (i := 375) (by decide +kernel)) (by decide +kernel)⟩
theorem mi_X0_servedSum : MI yX0_servedSum cX0_servedSum 3 (some .int) 0 := ⟨gT_in (List.mem_of_getElem? (i := 380) (by decide +kernel)) (by decide +kernel), gT_in (List.mem_of_getElem? (i := 55) (by decide +kernel)) (by decide +kernel), by decide +kernel, by decide +kernel, by decide +kernel, by decide⟩
theorem mv_X0_servedSum : MV yX0_servedSum := ⟨gT_in (List.mem_of_getElem? (i := 378) (by decide +kernel)) (by decide +kernel), gT_in (List.mem_of_getElem? (i := 379) (by decide +kernel)) (by decide +kernel)⟩
theorem mi_X0_partedPairs : MI yX0_partedPairs cX0_partedPairs 4 (some .int) 0 := ⟨gT_in (List.mem_of_getElem? (i := 384) (by decide +kernel)) (by decide +kernel), gT_in (List.mem_of_getElem? (i := 55) (by decide +kernel)) (by decide +kernel), by decide +kernel, by decide +kernel, by decide +kernel, by decide⟩
theorem mv_X0_partedPairs : MV yX0_partedPairs := ⟨gT_in (List.mem_of_getElem? (i := 382) (by decide +kernel)) (by decide +kernel), gT_in (List.mem_of_getElem? (i := 383) (by decide +kernel)) (by decide +kernel)⟩
theorem mi_X0_dishesOnCard : MI yX0_dishesOnCard cX0_dishesOnCard 3 (some .int) 0 := ⟨gT_in (List.mem_of_getElem? (i := 388) (by decide +kernel)) (by decide +kernel), gT_in (List.mem_of_getElem? (i := 55) (by decide +kernel)) (by decide +kernel), by decide +kernel, by decide +kernel, by decide +kernel, by decide⟩
theorem mv_X0_dishesOnCard : MV yX0_dishesOnCard := ⟨gT_in (List.mem_of_getElem? (i := 386) (by decide +kernel)) (by decide +kernel), gT_in (List.mem_of_getElem? (i := 387) (by decide +kernel)) (by decide +kernel)⟩
theorem mi_X0_deepestInDebt : MI yX0_deepestInDebt cX0_deepestInDebt 4 (some .int) 0 := ⟨gT_in (List.mem_of_getElem? (i := 392) (by decide +kernel)) (by decide +kernel), gT_in (List.mem_of_getElem? (i := 55) (by decide +kernel)) (by decide +kernel), by decide +kernel, by decide +kernel, by decide +kernel, by decide⟩
theorem mv_X0_deepestInDebt : MV yX0_deepestInDebt := ⟨gT_in (List.mem_of_getElem? (i := 390) (by decide +kernel)) (by decide +kernel), gT_in (List.mem_of_getElem? (i := 391) (by decide +kernel)) (by decide +kernel)⟩
theorem mi_X3_ahead : MI yX3_ahead cX3_ahead 4 (some .int) 3 := ⟨gT_in (List.mem_of_getElem? (i := 396) (by decide +kernel)) (by decide +kernel), gT_in (List.mem_of_getElem? (i := 54) (by decide +kernel)) (by decide +kernel), by decide +kernel, by decide +kernel, by decide +kernel, by decide⟩
theorem mv_X3_ahead : MV yX3_ahead := ⟨gT_in (List.mem_of_getElem? (i := 394) (by decide +kernel)) (by decide +kernel), gT_in (List.mem_of_getElem? (i := 395) (by decide +kernel)) (by decide +kernel)⟩
theorem mi_X0_become : MI yX0_become cX0_become 2 none 1 := ⟨gT_in (List.mem_of_getElem? (i := 400) (by decide +kernel)) (by decide +kernel), gT_in (List.mem_of_getElem? (i := 55) (by decide +kernel)) (by decide +kernel), by decide +kernel, by decide +kernel, by decide +kernel, by decide⟩
theorem mv_X0_become : MV yX0_become := ⟨gT_in (List.mem_of_getElem? (i := 398) (by decide +kernel)) (by decide +kernel), gT_in (List.mem_of_getElem? (i := 399) (by decide +kernel)) (by decide +kernel)⟩
theorem acN : Cond.native arraycopyName ∈ gT := gT_in (List.mem_of_getElem? (i := 403) (by decide +kernel)) (by decide +kernel)
theorem acS : Cond.static arraycopyName ∈ gT := gT_in (List.mem_of_getElem? (i := 402) (by decide +kernel)) (by decide +kernel)
theorem acI : Cond.initialized "java/lang/System" ∈ gT := gT_in (List.mem_of_getElem? (i := 60) (by decide +kernel)) (by decide +kernel)
theorem mi_X3_served : MI yX3_served cX3_served 3 (some .int) 2 := ⟨gT_in (List.mem_of_getElem? (i := 407) (by decide +kernel)) (by decide +kernel), gT_in (List.mem_of_getElem? (i := 54) (by decide +kernel)) (by decide +kernel), by decide +kernel, by decide +kernel, by decide +kernel, by decide⟩
theorem mv_X3_served : MV yX3_served := ⟨gT_in (List.mem_of_getElem? (i := 405) (by decide +kernel)) (by decide +kernel), gT_in (List.mem_of_getElem? (i := 406) (by decide +kernel)) (by decide +kernel)⟩
theorem mi_X3_when : MI yX3_when cX3_when 4 (some .int) 2 := ⟨gT_in (List.mem_of_getElem? (i := 411) (by decide +kernel)) (by decide +kernel), gT_in (List.mem_of_getElem? (i := 54) (by decide +kernel)) (by decide +kernel), by decide +kernel, by decide +kernel, by decide +kernel, by decide⟩
theorem mv_X3_when : MV yX3_when := ⟨gT_in (List.mem_of_getElem? (i := 409) (by decide +kernel)) (by decide +kernel), gT_in (List.mem_of_getElem? (i := 410) (by decide +kernel)) (by decide +kernel)⟩
theorem mi_X3_owes : MI yX3_owes cX3_owes 4 (some .int) 2 := ⟨gT_in (List.mem_of_getElem? (i := 417) (by decide +kernel)) (by decide +kernel), gT_in (List.mem_of_getElem? (i := 54) (by decide +kernel)) (by decide +kernel), by decide +kernel, by decide +kernel, by decide +kernel, by decide⟩
theorem mv_X3_owes : MV yX3_owes := ⟨gT_in (List.mem_of_getElem? (i := 415) (by decide +kernel)) (by decide +kernel), gT_in (List.mem_of_getElem? (i := 416) (by decide +kernel)) (by decide +kernel)⟩
theorem mi_X3_part : MI yX3_part cX3_part 4 (some .int) 2 := ⟨gT_in (List.mem_of_getElem? (i := 421) (by decide +kernel)) (by decide +kernel), gT_in (List.mem_of_getElem? (i := 54) (by decide +kernel)) (by decide +kernel), by decide +kernel, by decide +kernel, by decide +kernel, by decide⟩
theorem mv_X3_part : MV yX3_part := ⟨gT_in (List.mem_of_getElem? (i := 419) (by decide +kernel)) (by decide +kernel), gT_in (List.mem_of_getElem? (i := 420) (by decide +kernel)) (by decide +kernel)⟩
theorem mi_X3_dishFor : MI yX3_dishFor cX3_dishFor 8 (some .int) 2 := ⟨gT_in (List.mem_of_getElem? (i := 425) (by decide +kernel)) (by decide +kernel), gT_in (List.mem_of_getElem? (i := 54) (by decide +kernel)) (by decide +kernel), by decide +kernel, by decide +kernel, by decide +kernel, by decide⟩
theorem mv_X3_dishFor : MV yX3_dishFor := ⟨gT_in (List.mem_of_getElem? (i := 423) (by decide +kernel)) (by decide +kernel), gT_in (List.mem_of_getElem? (i := 424) (by decide +kernel)) (by decide +kernel)⟩
theorem mi_X3_kindFor : MI yX3_kindFor cX3_kindFor 7 (some .int) 2 := ⟨gT_in (List.mem_of_getElem? (i := 431) (by decide +kernel)) (by decide +kernel), gT_in (List.mem_of_getElem? (i := 54) (by decide +kernel)) (by decide +kernel), by decide +kernel, by decide +kernel, by decide +kernel, by decide⟩
theorem mv_X3_kindFor : MV yX3_kindFor := ⟨gT_in (List.mem_of_getElem? (i := 429) (by decide +kernel)) (by decide +kernel), gT_in (List.mem_of_getElem? (i := 430) (by decide +kernel)) (by decide +kernel)⟩
theorem mi_X3_bentFor : MI yX3_bentFor cX3_bentFor 5 (some .int) 3 := ⟨gT_in (List.mem_of_getElem? (i := 435) (by decide +kernel)) (by decide +kernel), gT_in (List.mem_of_getElem? (i := 54) (by decide +kernel)) (by decide +kernel), by decide +kernel, by decide +kernel, by decide +kernel, by decide⟩
theorem mv_X3_bentFor : MV yX3_bentFor := ⟨gT_in (List.mem_of_getElem? (i := 433) (by decide +kernel)) (by decide +kernel), gT_in (List.mem_of_getElem? (i := 434) (by decide +kernel)) (by decide +kernel)⟩
theorem mi_X3_courses : MI yX3_courses cX3_courses 4 (some .int) 2 := ⟨gT_in (List.mem_of_getElem? (i := 439) (by decide +kernel)) (by decide +kernel), gT_in (List.mem_of_getElem? (i := 54) (by decide +kernel)) (by decide +kernel), by decide +kernel, by decide +kernel, by decide +kernel, by decide⟩
theorem mv_X3_courses : MV yX3_courses := ⟨gT_in (List.mem_of_getElem? (i := 437) (by decide +kernel)) (by decide +kernel), gT_in (List.mem_of_getElem? (i := 438) (by decide +kernel)) (by decide +kernel)⟩
theorem mi_X3_leadsTo : MI yX3_leadsTo cX3_leadsTo 5 (some .boolean) 3 := ⟨gT_in (List.mem_of_getElem? (i := 443) (by decide +kernel)) (by decide +kernel), gT_in (List.mem_of_getElem? (i := 54) (by decide +kernel)) (by decide +kernel), by decide +kernel, by decide +kernel, by decide +kernel, by decide⟩
theorem mv_X3_leadsTo : MV yX3_leadsTo := ⟨gT_in (List.mem_of_getElem? (i := 442) (by decide +kernel)) (by decide +kernel), gT_in (List.mem_of_getElem? (i := 1) (by decide +kernel)) (by decide +kernel)⟩
theorem mi_X3_leadsToBy : MI yX3_leadsToBy cX3_leadsToBy 9 (some .boolean) 4 := ⟨gT_in (List.mem_of_getElem? (i := 447) (by decide +kernel)) (by decide +kernel), gT_in (List.mem_of_getElem? (i := 54) (by decide +kernel)) (by decide +kernel), by decide +kernel, by decide +kernel, by decide +kernel, by decide⟩
theorem mv_X3_leadsToBy : MV yX3_leadsToBy := ⟨gT_in (List.mem_of_getElem? (i := 446) (by decide +kernel)) (by decide +kernel), gT_in (List.mem_of_getElem? (i := 2) (by decide +kernel)) (by decide +kernel)⟩
theorem mi_X3_strike : MI yX3_strike cX3_strike 7 (some .int) 3 := ⟨gT_in (List.mem_of_getElem? (i := 453) (by decide +kernel)) (by decide +kernel), gT_in (List.mem_of_getElem? (i := 54) (by decide +kernel)) (by decide +kernel), by decide +kernel, by decide +kernel, by decide +kernel, by decide⟩
theorem mv_X3_strike : MV yX3_strike := ⟨gT_in (List.mem_of_getElem? (i := 451) (by decide +kernel)) (by decide +kernel), gT_in (List.mem_of_getElem? (i := 452) (by decide +kernel)) (by decide +kernel)⟩
theorem mi_J6_bitCount_0f7a4 : MI yJ6_bitCount_0f7a4 cJ6_bitCount_0f7a4 1 (some .int) 1 := ⟨gT_in (List.mem_of_getElem? (i := 456) (by decide +kernel)) (by decide +kernel), gT_in (List.mem_of_getElem? (i := 61) (by decide +kernel)) (by decide +kernel), by decide +kernel, by decide +kernel, by decide +kernel, by decide⟩
theorem ms_J6_bitCount_0f7a4 : Cond.static yJ6_bitCount_0f7a4 ∈ gT := gT_in (List.mem_of_getElem? (i := 455) (by decide +kernel)) (by decide +kernel)
theorem mi_X3_keepsAway : MI yX3_keepsAway cX3_keepsAway 6 (some .boolean) 4 := ⟨gT_in (List.mem_of_getElem? (i := 463) (by decide +kernel)) (by decide +kernel), gT_in (List.mem_of_getElem? (i := 54) (by decide +kernel)) (by decide +kernel), by decide +kernel, by decide +kernel, by decide +kernel, by decide⟩
theorem mv_X3_keepsAway : MV yX3_keepsAway := ⟨gT_in (List.mem_of_getElem? (i := 462) (by decide +kernel)) (by decide +kernel), gT_in (List.mem_of_getElem? (i := 3) (by decide +kernel)) (by decide +kernel)⟩
theorem mi_X3_fits : MI yX3_fits cX3_fits 6 (some .int) 2 := ⟨gT_in (List.mem_of_getElem? (i := 467) (by decide +kernel)) (by decide +kernel), gT_in (List.mem_of_getElem? (i := 54) (by decide +kernel)) (by decide +kernel), by decide +kernel, by decide +kernel, by decide +kernel, by decide⟩
theorem mv_X3_fits : MV yX3_fits := ⟨gT_in (List.mem_of_getElem? (i := 465) (by decide +kernel)) (by decide +kernel), gT_in (List.mem_of_getElem? (i := 466) (by decide +kernel)) (by decide +kernel)⟩
theorem mi_X3_sheetTrouble : MI yX3_sheetTrouble cX3_sheetTrouble 2 (some .int) 1 := ⟨gT_in (List.mem_of_getElem? (i := 471) (by decide +kernel)) (by decide +kernel), gT_in (List.mem_of_getElem? (i := 54) (by decide +kernel)) (by decide +kernel), by decide +kernel, by decide +kernel, by decide +kernel, by decide⟩
theorem mv_X3_sheetTrouble : MV yX3_sheetTrouble := ⟨gT_in (List.mem_of_getElem? (i := 470) (by decide +kernel)) (by decide +kernel), gT_in (List.mem_of_getElem? (i := 4) (by decide +kernel)) (by decide +kernel)⟩
theorem mi_X3_isSheet : MI yX3_isSheet cX3_isSheet 1 (some .boolean) 1 := ⟨gT_in (List.mem_of_getElem? (i := 474) (by decide +kernel)) (by decide +kernel), gT_in (List.mem_of_getElem? (i := 54) (by decide +kernel)) (by decide +kernel), by decide +kernel, by decide +kernel, by decide +kernel, by decide⟩
theorem ms_X3_isSheet : Cond.static yX3_isSheet ∈ gT := gT_in (List.mem_of_getElem? (i := 473) (by decide +kernel)) (by decide +kernel)
theorem mi_X1_isMissing : MI yX1_isMissing cX1_isMissing 1 (some .boolean) 0 := ⟨gT_in (List.mem_of_getElem? (i := 478) (by decide +kernel)) (by decide +kernel), gT_in (List.mem_of_getElem? (i := 57) (by decide +kernel)) (by decide +kernel), by decide +kernel, by decide +kernel, by decide +kernel, by decide⟩
theorem mv_X1_isMissing : MV yX1_isMissing := ⟨gT_in (List.mem_of_getElem? (i := 476) (by decide +kernel)) (by decide +kernel), gT_in (List.mem_of_getElem? (i := 477) (by decide +kernel)) (by decide +kernel)⟩
theorem mi_X3_goesAsTold : MI yX3_goesAsTold cX3_goesAsTold 5 (some .boolean) 2 := ⟨gT_in (List.mem_of_getElem? (i := 483) (by decide +kernel)) (by decide +kernel), gT_in (List.mem_of_getElem? (i := 54) (by decide +kernel)) (by decide +kernel), by decide +kernel, by decide +kernel, by decide +kernel, by decide⟩
theorem mv_X3_goesAsTold : MV yX3_goesAsTold := ⟨gT_in (List.mem_of_getElem? (i := 482) (by decide +kernel)) (by decide +kernel), gT_in (List.mem_of_getElem? (i := 5) (by decide +kernel)) (by decide +kernel)⟩
theorem mi_X3_kinds : MI yX3_kinds cX3_kinds 7 (some .int) 3 := ⟨gT_in (List.mem_of_getElem? (i := 487) (by decide +kernel)) (by decide +kernel), gT_in (List.mem_of_getElem? (i := 54) (by decide +kernel)) (by decide +kernel), by decide +kernel, by decide +kernel, by decide +kernel, by decide⟩
theorem mv_X3_kinds : MV yX3_kinds := ⟨gT_in (List.mem_of_getElem? (i := 485) (by decide +kernel)) (by decide +kernel), gT_in (List.mem_of_getElem? (i := 486) (by decide +kernel)) (by decide +kernel)⟩
theorem mi_X3_coach : MI yX3_coach cX3_coach 5 (some .int) 1 := ⟨gT_in (List.mem_of_getElem? (i := 491) (by decide +kernel)) (by decide +kernel), gT_in (List.mem_of_getElem? (i := 54) (by decide +kernel)) (by decide +kernel), by decide +kernel, by decide +kernel, by decide +kernel, by decide⟩
theorem mv_X3_coach : MV yX3_coach := ⟨gT_in (List.mem_of_getElem? (i := 489) (by decide +kernel)) (by decide +kernel), gT_in (List.mem_of_getElem? (i := 490) (by decide +kernel)) (by decide +kernel)⟩
theorem mi_X0_drawNumber : MI yX0_drawNumber cX0_drawNumber 1 (some .int) 0 := ⟨gT_in (List.mem_of_getElem? (i := 495) (by decide +kernel)) (by decide +kernel), gT_in (List.mem_of_getElem? (i := 55) (by decide +kernel)) (by decide +kernel), by decide +kernel, by decide +kernel, by decide +kernel, by decide⟩
theorem mv_X0_drawNumber : MV yX0_drawNumber := ⟨gT_in (List.mem_of_getElem? (i := 493) (by decide +kernel)) (by decide +kernel), gT_in (List.mem_of_getElem? (i := 494) (by decide +kernel)) (by decide +kernel)⟩
theorem mi_X3_odds : MI yX3_odds cX3_odds 7 (some .long) 4 := ⟨gT_in (List.mem_of_getElem? (i := 500) (by decide +kernel)) (by decide +kernel), gT_in (List.mem_of_getElem? (i := 54) (by decide +kernel)) (by decide +kernel), by decide +kernel, by decide +kernel, by decide +kernel, by decide⟩
theorem mv_X3_odds : MV yX3_odds := ⟨gT_in (List.mem_of_getElem? (i := 498) (by decide +kernel)) (by decide +kernel), gT_in (List.mem_of_getElem? (i := 499) (by decide +kernel)) (by decide +kernel)⟩
theorem mi_X3_sharedWithAllBents : MI yX3_sharedWithAllBents cX3_sharedWithAllBents 2 (some .int) 1 := ⟨gT_in (List.mem_of_getElem? (i := 503) (by decide +kernel)) (by decide +kernel), gT_in (List.mem_of_getElem? (i := 54) (by decide +kernel)) (by decide +kernel), by decide +kernel, by decide +kernel, by decide +kernel, by decide⟩
theorem ms_X3_sharedWithAllBents : Cond.static yX3_sharedWithAllBents ∈ gT := gT_in (List.mem_of_getElem? (i := 502) (by decide +kernel)) (by decide +kernel)
theorem mi_X3_power : MI yX3_power cX3_power 5 (some .long) 2 := ⟨gT_in (List.mem_of_getElem? (i := 506) (by decide +kernel)) (by decide +kernel), gT_in (List.mem_of_getElem? (i := 54) (by decide +kernel)) (by decide +kernel), by decide +kernel, by decide +kernel, by decide +kernel, by decide⟩
theorem ms_X3_power : Cond.static yX3_power ∈ gT := gT_in (List.mem_of_getElem? (i := 505) (by decide +kernel)) (by decide +kernel)
theorem mi_X3_seed : MI yX3_seed cX3_seed 3 (some .int) 1 := ⟨gT_in (List.mem_of_getElem? (i := 510) (by decide +kernel)) (by decide +kernel), gT_in (List.mem_of_getElem? (i := 54) (by decide +kernel)) (by decide +kernel), by decide +kernel, by decide +kernel, by decide +kernel, by decide⟩
theorem mv_X3_seed : MV yX3_seed := ⟨gT_in (List.mem_of_getElem? (i := 508) (by decide +kernel)) (by decide +kernel), gT_in (List.mem_of_getElem? (i := 509) (by decide +kernel)) (by decide +kernel)⟩
theorem mi_X3_feed : MI yX3_feed cX3_feed 4 (some .int) 2 := ⟨gT_in (List.mem_of_getElem? (i := 514) (by decide +kernel)) (by decide +kernel), gT_in (List.mem_of_getElem? (i := 54) (by decide +kernel)) (by decide +kernel), by decide +kernel, by decide +kernel, by decide +kernel, by decide⟩
theorem mv_X3_feed : MV yX3_feed := ⟨gT_in (List.mem_of_getElem? (i := 512) (by decide +kernel)) (by decide +kernel), gT_in (List.mem_of_getElem? (i := 513) (by decide +kernel)) (by decide +kernel)⟩
theorem mi_X2_addByte : MI yX2_addByte cX2_addByte 2 none 1 := ⟨gT_in (List.mem_of_getElem? (i := 518) (by decide +kernel)) (by decide +kernel), gT_in (List.mem_of_getElem? (i := 56) (by decide +kernel)) (by decide +kernel), by decide +kernel, by decide +kernel, by decide +kernel, by decide⟩
theorem mv_X2_addByte : MV yX2_addByte := ⟨gT_in (List.mem_of_getElem? (i := 516) (by decide +kernel)) (by decide +kernel), gT_in (List.mem_of_getElem? (i := 517) (by decide +kernel)) (by decide +kernel)⟩
theorem mi_X3_wipe : MI yX3_wipe cX3_wipe 2 (some .int) 0 := ⟨gT_in (List.mem_of_getElem? (i := 522) (by decide +kernel)) (by decide +kernel), gT_in (List.mem_of_getElem? (i := 54) (by decide +kernel)) (by decide +kernel), by decide +kernel, by decide +kernel, by decide +kernel, by decide⟩
theorem mv_X3_wipe : MV yX3_wipe := ⟨gT_in (List.mem_of_getElem? (i := 520) (by decide +kernel)) (by decide +kernel), gT_in (List.mem_of_getElem? (i := 521) (by decide +kernel)) (by decide +kernel)⟩
theorem mi_X3_text : MI yX3_text cX3_text 2 (some .int) 0 := ⟨gT_in (List.mem_of_getElem? (i := 526) (by decide +kernel)) (by decide +kernel), gT_in (List.mem_of_getElem? (i := 54) (by decide +kernel)) (by decide +kernel), by decide +kernel, by decide +kernel, by decide +kernel, by decide⟩
theorem mv_X3_text : MV yX3_text := ⟨gT_in (List.mem_of_getElem? (i := 524) (by decide +kernel)) (by decide +kernel), gT_in (List.mem_of_getElem? (i := 525) (by decide +kernel)) (by decide +kernel)⟩
theorem mi_X2_readText : MI yX2_readText cX2_readText 3 (some .int) 1 := ⟨gT_in (List.mem_of_getElem? (i := 530) (by decide +kernel)) (by decide +kernel), gT_in (List.mem_of_getElem? (i := 56) (by decide +kernel)) (by decide +kernel), by decide +kernel, by decide +kernel, by decide +kernel, by decide⟩
theorem mv_X2_readText : MV yX2_readText := ⟨gT_in (List.mem_of_getElem? (i := 528) (by decide +kernel)) (by decide +kernel), gT_in (List.mem_of_getElem? (i := 529) (by decide +kernel)) (by decide +kernel)⟩
theorem mi_X2_nextToken : MI yX2_nextToken cX2_nextToken 1 none 0 := ⟨gT_in (List.mem_of_getElem? (i := 534) (by decide +kernel)) (by decide +kernel), gT_in (List.mem_of_getElem? (i := 56) (by decide +kernel)) (by decide +kernel), by decide +kernel, by decide +kernel, by decide +kernel, by decide⟩
theorem mv_X2_nextToken : MV yX2_nextToken := ⟨gT_in (List.mem_of_getElem? (i := 532) (by decide +kernel)) (by decide +kernel), gT_in (List.mem_of_getElem? (i := 533) (by decide +kernel)) (by decide +kernel)⟩
theorem mi_X2_tokenBegunBy : MI yX2_tokenBegunBy cX2_tokenBegunBy 1 (some .int) 1 := ⟨gT_in (List.mem_of_getElem? (i := 537) (by decide +kernel)) (by decide +kernel), gT_in (List.mem_of_getElem? (i := 56) (by decide +kernel)) (by decide +kernel), by decide +kernel, by decide +kernel, by decide +kernel, by decide⟩
theorem ms_X2_tokenBegunBy : Cond.static yX2_tokenBegunBy ∈ gT := gT_in (List.mem_of_getElem? (i := 536) (by decide +kernel)) (by decide +kernel)
theorem mi_X2_readItem : MI yX2_readItem cX2_readItem 3 (some .boolean) 1 := ⟨gT_in (List.mem_of_getElem? (i := 541) (by decide +kernel)) (by decide +kernel), gT_in (List.mem_of_getElem? (i := 56) (by decide +kernel)) (by decide +kernel), by decide +kernel, by decide +kernel, by decide +kernel, by decide⟩
theorem mv_X2_readItem : MV yX2_readItem := ⟨gT_in (List.mem_of_getElem? (i := 539) (by decide +kernel)) (by decide +kernel), gT_in (List.mem_of_getElem? (i := 540) (by decide +kernel)) (by decide +kernel)⟩
theorem mi_X2_isWord : MI yX2_isWord cX2_isWord 3 (some .boolean) 1 := ⟨gT_in (List.mem_of_getElem? (i := 546) (by decide +kernel)) (by decide +kernel), gT_in (List.mem_of_getElem? (i := 56) (by decide +kernel)) (by decide +kernel), by decide +kernel, by decide +kernel, by decide +kernel, by decide⟩
theorem mv_X2_isWord : MV yX2_isWord := ⟨gT_in (List.mem_of_getElem? (i := 544) (by decide +kernel)) (by decide +kernel), gT_in (List.mem_of_getElem? (i := 545) (by decide +kernel)) (by decide +kernel)⟩
theorem mi_J0_length_8abf5 : MI yJ0_length_8abf5 cJ0_length_8abf5 1 (some .int) 0 := ⟨gT_in (List.mem_of_getElem? (i := 550) (by decide +kernel)) (by decide +kernel), gT_in (List.mem_of_getElem? (i := 62) (by decide +kernel)) (by decide +kernel), by decide +kernel, by decide +kernel, by decide +kernel, by decide⟩
theorem mv_J0_length_8abf5 : MV yJ0_length_8abf5 := ⟨gT_in (List.mem_of_getElem? (i := 548) (by decide +kernel)) (by decide +kernel), gT_in (List.mem_of_getElem? (i := 549) (by decide +kernel)) (by decide +kernel)⟩
theorem mi_J0_coder_7d493 : MI yJ0_coder_7d493 cJ0_coder_7d493 1 (some .byte) 0 := ⟨gT_in (List.mem_of_getElem? (i := 554) (by decide +kernel)) (by decide +kernel), gT_in (List.mem_of_getElem? (i := 62) (by decide +kernel)) (by decide +kernel), by decide +kernel, by decide +kernel, by decide +kernel, by decide⟩
theorem mv_J0_coder_7d493 : MV yJ0_coder_7d493 := ⟨gT_in (List.mem_of_getElem? (i := 552) (by decide +kernel)) (by decide +kernel), gT_in (List.mem_of_getElem? (i := 553) (by decide +kernel)) (by decide +kernel)⟩
theorem mi_J0_charAt_5068e : MI yJ0_charAt_5068e cJ0_charAt_5068e 2 (some .char) 1 := ⟨gT_in (List.mem_of_getElem? (i := 560) (by decide +kernel)) (by decide +kernel), gT_in (List.mem_of_getElem? (i := 62) (by decide +kernel)) (by decide +kernel), by decide +kernel, by decide +kernel, by decide +kernel, by decide⟩
theorem mv_J0_charAt_5068e : MV yJ0_charAt_5068e := ⟨gT_in (List.mem_of_getElem? (i := 558) (by decide +kernel)) (by decide +kernel), gT_in (List.mem_of_getElem? (i := 559) (by decide +kernel)) (by decide +kernel)⟩
theorem mi_J0_isLatin1_aae02 : MI yJ0_isLatin1_aae02 cJ0_isLatin1_aae02 1 (some .boolean) 0 := ⟨gT_in (List.mem_of_getElem? (i := 564) (by decide +kernel)) (by decide +kernel), gT_in (List.mem_of_getElem? (i := 62) (by decide +kernel)) (by decide +kernel), by decide +kernel, by decide +kernel, by decide +kernel, by decide⟩
theorem mv_J0_isLatin1_aae02 : MV yJ0_isLatin1_aae02 := ⟨gT_in (List.mem_of_getElem? (i := 562) (by decide +kernel)) (by decide +kernel), gT_in (List.mem_of_getElem? (i := 563) (by decide +kernel)) (by decide +kernel)⟩
theorem mi_J1_charAt_3b067 : MI yJ1_charAt_3b067 cJ1_charAt_3b067 2 (some .char) 2 := ⟨gT_in (List.mem_of_getElem? (i := 567) (by decide +kernel)) (by decide +kernel), gT_in (List.mem_of_getElem? (i := 63) (by decide +kernel)) (by decide +kernel), by decide +kernel, by decide +kernel, by decide +kernel, by decide⟩
theorem ms_J1_charAt_3b067 : Cond.static yJ1_charAt_3b067 ∈ gT := gT_in (List.mem_of_getElem? (i := 566) (by decide +kernel)) (by decide +kernel)
theorem mi_J0_checkIndex_df160 : MI yJ0_checkIndex_df160 cJ0_checkIndex_df160 2 none 2 := ⟨gT_in (List.mem_of_getElem? (i := 570) (by decide +kernel)) (by decide +kernel), gT_in (List.mem_of_getElem? (i := 62) (by decide +kernel)) (by decide +kernel), by decide +kernel, by decide +kernel, by decide +kernel, by decide⟩
theorem ms_J0_checkIndex_df160 : Cond.static yJ0_checkIndex_df160 ∈ gT := gT_in (List.mem_of_getElem? (i := 569) (by decide +kernel)) (by decide +kernel)
theorem mi_J3_checkIndex_8e157 : MI yJ3_checkIndex_8e157 cJ3_checkIndex_8e157 3 (some .int) 3 := ⟨gT_in (List.mem_of_getElem? (i := 575) (by decide +kernel)) (by decide +kernel), gT_in (List.mem_of_getElem? (i := 64) (by decide +kernel)) (by decide +kernel), by decide +kernel, by decide +kernel, by decide +kernel, by decide⟩
theorem ms_J3_checkIndex_8e157 : Cond.static yJ3_checkIndex_8e157 ∈ gT := gT_in (List.mem_of_getElem? (i := 574) (by decide +kernel)) (by decide +kernel)
theorem mi_J2_charAt_3b067 : MI yJ2_charAt_3b067 cJ2_charAt_3b067 2 (some .char) 2 := ⟨gT_in (List.mem_of_getElem? (i := 578) (by decide +kernel)) (by decide +kernel), gT_in (List.mem_of_getElem? (i := 65) (by decide +kernel)) (by decide +kernel), by decide +kernel, by decide +kernel, by decide +kernel, by decide⟩
theorem ms_J2_charAt_3b067 : Cond.static yJ2_charAt_3b067 ∈ gT := gT_in (List.mem_of_getElem? (i := 577) (by decide +kernel)) (by decide +kernel)
theorem mi_J2_checkIndex_2214a : MI yJ2_checkIndex_2214a cJ2_checkIndex_2214a 2 none 2 := ⟨gT_in (List.mem_of_getElem? (i := 581) (by decide +kernel)) (by decide +kernel), gT_in (List.mem_of_getElem? (i := 65) (by decide +kernel)) (by decide +kernel), by decide +kernel, by decide +kernel, by decide +kernel, by decide⟩
theorem ms_J2_checkIndex_2214a : Cond.static yJ2_checkIndex_2214a ∈ gT := gT_in (List.mem_of_getElem? (i := 580) (by decide +kernel)) (by decide +kernel)
theorem mi_J2_length_9d52b : MI yJ2_length_9d52b cJ2_length_9d52b 1 (some .int) 1 := ⟨gT_in (List.mem_of_getElem? (i := 584) (by decide +kernel)) (by decide +kernel), gT_in (List.mem_of_getElem? (i := 65) (by decide +kernel)) (by decide +kernel), by decide +kernel, by decide +kernel, by decide +kernel, by decide⟩
theorem ms_J2_length_9d52b : Cond.static yJ2_length_9d52b ∈ gT := gT_in (List.mem_of_getElem? (i := 583) (by decide +kernel)) (by decide +kernel)
theorem mi_J2_getChar_3b067 : MI yJ2_getChar_3b067 cJ2_getChar_3b067 2 (some .char) 2 := ⟨gT_in (List.mem_of_getElem? (i := 588) (by decide +kernel)) (by decide +kernel), gT_in (List.mem_of_getElem? (i := 65) (by decide +kernel)) (by decide +kernel), by decide +kernel, by decide +kernel, by decide +kernel, by decide⟩
theorem ms_J2_getChar_3b067 : Cond.static yJ2_getChar_3b067 ∈ gT := gT_in (List.mem_of_getElem? (i := 587) (by decide +kernel)) (by decide +kernel)
theorem mi_X2_readGuest : MI yX2_readGuest cX2_readGuest 5 (some .boolean) 1 := ⟨gT_in (List.mem_of_getElem? (i := 598) (by decide +kernel)) (by decide +kernel), gT_in (List.mem_of_getElem? (i := 56) (by decide +kernel)) (by decide +kernel), by decide +kernel, by decide +kernel, by decide +kernel, by decide⟩
theorem mv_X2_readGuest : MV yX2_readGuest := ⟨gT_in (List.mem_of_getElem? (i := 596) (by decide +kernel)) (by decide +kernel), gT_in (List.mem_of_getElem? (i := 597) (by decide +kernel)) (by decide +kernel)⟩
theorem mi_X2_takeNumber : MI yX2_takeNumber cX2_takeNumber 3 (some .int) 1 := ⟨gT_in (List.mem_of_getElem? (i := 602) (by decide +kernel)) (by decide +kernel), gT_in (List.mem_of_getElem? (i := 56) (by decide +kernel)) (by decide +kernel), by decide +kernel, by decide +kernel, by decide +kernel, by decide⟩
theorem mv_X2_takeNumber : MV yX2_takeNumber := ⟨gT_in (List.mem_of_getElem? (i := 600) (by decide +kernel)) (by decide +kernel), gT_in (List.mem_of_getElem? (i := 601) (by decide +kernel)) (by decide +kernel)⟩
theorem mi_X2_takeWord : MI yX2_takeWord cX2_takeWord 2 (some .boolean) 1 := ⟨gT_in (List.mem_of_getElem? (i := 607) (by decide +kernel)) (by decide +kernel), gT_in (List.mem_of_getElem? (i := 56) (by decide +kernel)) (by decide +kernel), by decide +kernel, by decide +kernel, by decide +kernel, by decide⟩
theorem mv_X2_takeWord : MV yX2_takeWord := ⟨gT_in (List.mem_of_getElem? (i := 605) (by decide +kernel)) (by decide +kernel), gT_in (List.mem_of_getElem? (i := 606) (by decide +kernel)) (by decide +kernel)⟩
theorem mi_X2_readMeal : MI yX2_readMeal cX2_readMeal 5 (some .boolean) 1 := ⟨gT_in (List.mem_of_getElem? (i := 614) (by decide +kernel)) (by decide +kernel), gT_in (List.mem_of_getElem? (i := 56) (by decide +kernel)) (by decide +kernel), by decide +kernel, by decide +kernel, by decide +kernel, by decide⟩
theorem mv_X2_readMeal : MV yX2_readMeal := ⟨gT_in (List.mem_of_getElem? (i := 612) (by decide +kernel)) (by decide +kernel), gT_in (List.mem_of_getElem? (i := 613) (by decide +kernel)) (by decide +kernel)⟩
theorem mi_X2_wordOf : MI yX2_wordOf cX2_wordOf 1 (some (.object "java/lang/String")) 1 := ⟨gT_in (List.mem_of_getElem? (i := 618) (by decide +kernel)) (by decide +kernel), gT_in (List.mem_of_getElem? (i := 56) (by decide +kernel)) (by decide +kernel), by decide +kernel, by decide +kernel, by decide +kernel, by decide⟩
theorem ms_X2_wordOf : Cond.static yX2_wordOf ∈ gT := gT_in (List.mem_of_getElem? (i := 617) (by decide +kernel)) (by decide +kernel)
theorem mi_X2_readDish : MI yX2_readDish cX2_readDish 8 (some .boolean) 2 := ⟨gT_in (List.mem_of_getElem? (i := 629) (by decide +kernel)) (by decide +kernel), gT_in (List.mem_of_getElem? (i := 56) (by decide +kernel)) (by decide +kernel), by decide +kernel, by decide +kernel, by decide +kernel, by decide⟩
theorem mv_X2_readDish : MV yX2_readDish := ⟨gT_in (List.mem_of_getElem? (i := 627) (by decide +kernel)) (by decide +kernel), gT_in (List.mem_of_getElem? (i := 628) (by decide +kernel)) (by decide +kernel)⟩
theorem mi_X3_hold : MI yX3_hold cX3_hold 3 (some .int) 2 := ⟨gT_in (List.mem_of_getElem? (i := 638) (by decide +kernel)) (by decide +kernel), gT_in (List.mem_of_getElem? (i := 54) (by decide +kernel)) (by decide +kernel), by decide +kernel, by decide +kernel, by decide +kernel, by decide⟩
theorem mv_X3_hold : MV yX3_hold := ⟨gT_in (List.mem_of_getElem? (i := 636) (by decide +kernel)) (by decide +kernel), gT_in (List.mem_of_getElem? (i := 637) (by decide +kernel)) (by decide +kernel)⟩
theorem mi_X3_isSpot : MI yX3_isSpot cX3_isSpot 1 (some .boolean) 1 := ⟨gT_in (List.mem_of_getElem? (i := 641) (by decide +kernel)) (by decide +kernel), gT_in (List.mem_of_getElem? (i := 54) (by decide +kernel)) (by decide +kernel), by decide +kernel, by decide +kernel, by decide +kernel, by decide⟩
theorem ms_X3_isSpot : Cond.static yX3_isSpot ∈ gT := gT_in (List.mem_of_getElem? (i := 640) (by decide +kernel)) (by decide +kernel)
theorem mi_X3_as : MI yX3_as cX3_as 4 (some .int) 2 := ⟨gT_in (List.mem_of_getElem? (i := 645) (by decide +kernel)) (by decide +kernel), gT_in (List.mem_of_getElem? (i := 54) (by decide +kernel)) (by decide +kernel), by decide +kernel, by decide +kernel, by decide +kernel, by decide⟩
theorem mv_X3_as : MV yX3_as := ⟨gT_in (List.mem_of_getElem? (i := 643) (by decide +kernel)) (by decide +kernel), gT_in (List.mem_of_getElem? (i := 644) (by decide +kernel)) (by decide +kernel)⟩
theorem mi_X0_isUnder : MI yX0_isUnder cX0_isUnder 4 (some .boolean) 2 := ⟨gT_in (List.mem_of_getElem? (i := 648) (by decide +kernel)) (by decide +kernel), gT_in (List.mem_of_getElem? (i := 55) (by decide +kernel)) (by decide +kernel), by decide +kernel, by decide +kernel, by decide +kernel, by decide⟩
theorem ms_X0_isUnder : Cond.static yX0_isUnder ∈ gT := gT_in (List.mem_of_getElem? (i := 647) (by decide +kernel)) (by decide +kernel)
theorem mi_X3_sheet : MI yX3_sheet cX3_sheet 4 (some .int) 3 := ⟨gT_in (List.mem_of_getElem? (i := 655) (by decide +kernel)) (by decide +kernel), gT_in (List.mem_of_getElem? (i := 54) (by decide +kernel)) (by decide +kernel), by decide +kernel, by decide +kernel, by decide +kernel, by decide⟩
theorem mv_X3_sheet : MV yX3_sheet := ⟨gT_in (List.mem_of_getElem? (i := 653) (by decide +kernel)) (by decide +kernel), gT_in (List.mem_of_getElem? (i := 654) (by decide +kernel)) (by decide +kernel)⟩
theorem mi_X1_start : MI yX1_start cX1_start 4 none 2 := ⟨gT_in (List.mem_of_getElem? (i := 660) (by decide +kernel)) (by decide +kernel), gT_in (List.mem_of_getElem? (i := 57) (by decide +kernel)) (by decide +kernel), by decide +kernel, by decide +kernel, by decide +kernel, by decide⟩
theorem mv_X1_start : MV yX1_start := ⟨gT_in (List.mem_of_getElem? (i := 658) (by decide +kernel)) (by decide +kernel), gT_in (List.mem_of_getElem? (i := 659) (by decide +kernel)) (by decide +kernel)⟩
theorem mi_X3_write : MI yX3_write cX3_write 5 (some .int) 3 := ⟨gT_in (List.mem_of_getElem? (i := 664) (by decide +kernel)) (by decide +kernel), gT_in (List.mem_of_getElem? (i := 54) (by decide +kernel)) (by decide +kernel), by decide +kernel, by decide +kernel, by decide +kernel, by decide⟩
theorem mv_X3_write : MV yX3_write := ⟨gT_in (List.mem_of_getElem? (i := 662) (by decide +kernel)) (by decide +kernel), gT_in (List.mem_of_getElem? (i := 663) (by decide +kernel)) (by decide +kernel)⟩
theorem mi_X1_put : MI yX1_put cX1_put 3 none 2 := ⟨gT_in (List.mem_of_getElem? (i := 668) (by decide +kernel)) (by decide +kernel), gT_in (List.mem_of_getElem? (i := 57) (by decide +kernel)) (by decide +kernel), by decide +kernel, by decide +kernel, by decide +kernel, by decide⟩
theorem mv_X1_put : MV yX1_put := ⟨gT_in (List.mem_of_getElem? (i := 666) (by decide +kernel)) (by decide +kernel), gT_in (List.mem_of_getElem? (i := 667) (by decide +kernel)) (by decide +kernel)⟩
theorem mi_X3_copy : MI yX3_copy cX3_copy 8 (some .int) 5 := ⟨gT_in (List.mem_of_getElem? (i := 672) (by decide +kernel)) (by decide +kernel), gT_in (List.mem_of_getElem? (i := 54) (by decide +kernel)) (by decide +kernel), by decide +kernel, by decide +kernel, by decide +kernel, by decide⟩
theorem mv_X3_copy : MV yX3_copy := ⟨gT_in (List.mem_of_getElem? (i := 670) (by decide +kernel)) (by decide +kernel), gT_in (List.mem_of_getElem? (i := 671) (by decide +kernel)) (by decide +kernel)⟩
theorem mi_X1_hasRange : MI yX1_hasRange cX1_hasRange 3 (some .boolean) 2 := ⟨gT_in (List.mem_of_getElem? (i := 676) (by decide +kernel)) (by decide +kernel), gT_in (List.mem_of_getElem? (i := 57) (by decide +kernel)) (by decide +kernel), by decide +kernel, by decide +kernel, by decide +kernel, by decide⟩
theorem mv_X1_hasRange : MV yX1_hasRange := ⟨gT_in (List.mem_of_getElem? (i := 674) (by decide +kernel)) (by decide +kernel), gT_in (List.mem_of_getElem? (i := 675) (by decide +kernel)) (by decide +kernel)⟩
theorem mi_X3_load : MI yX3_load cX3_load 6 (some .int) 1 := ⟨gT_in (List.mem_of_getElem? (i := 681) (by decide +kernel)) (by decide +kernel), gT_in (List.mem_of_getElem? (i := 54) (by decide +kernel)) (by decide +kernel), by decide +kernel, by decide +kernel, by decide +kernel, by decide⟩
theorem mv_X3_load : MV yX3_load := ⟨gT_in (List.mem_of_getElem? (i := 679) (by decide +kernel)) (by decide +kernel), gT_in (List.mem_of_getElem? (i := 680) (by decide +kernel)) (by decide +kernel)⟩
theorem mi_X3_judge : MI yX3_judge cX3_judge 4 (some .int) 1 := ⟨gT_in (List.mem_of_getElem? (i := 686) (by decide +kernel)) (by decide +kernel), gT_in (List.mem_of_getElem? (i := 54) (by decide +kernel)) (by decide +kernel), by decide +kernel, by decide +kernel, by decide +kernel, by decide⟩
theorem mv_X3_judge : MV yX3_judge := ⟨gT_in (List.mem_of_getElem? (i := 684) (by decide +kernel)) (by decide +kernel), gT_in (List.mem_of_getElem? (i := 685) (by decide +kernel)) (by decide +kernel)⟩
theorem mi_X3_image : MI yX3_image cX3_image 1 (some .int) 0 := ⟨gT_in (List.mem_of_getElem? (i := 690) (by decide +kernel)) (by decide +kernel), gT_in (List.mem_of_getElem? (i := 54) (by decide +kernel)) (by decide +kernel), by decide +kernel, by decide +kernel, by decide +kernel, by decide⟩
theorem mv_X3_image : MV yX3_image := ⟨gT_in (List.mem_of_getElem? (i := 688) (by decide +kernel)) (by decide +kernel), gT_in (List.mem_of_getElem? (i := 689) (by decide +kernel)) (by decide +kernel)⟩
theorem mi_X3_undo : MI yX3_undo cX3_undo 1 (some .int) 0 := ⟨gT_in (List.mem_of_getElem? (i := 694) (by decide +kernel)) (by decide +kernel), gT_in (List.mem_of_getElem? (i := 54) (by decide +kernel)) (by decide +kernel), by decide +kernel, by decide +kernel, by decide +kernel, by decide⟩
theorem mv_X3_undo : MV yX3_undo := ⟨gT_in (List.mem_of_getElem? (i := 692) (by decide +kernel)) (by decide +kernel), gT_in (List.mem_of_getElem? (i := 693) (by decide +kernel)) (by decide +kernel)⟩
theorem mi_X3_tear : MI yX3_tear cX3_tear 2 (some .int) 0 := ⟨gT_in (List.mem_of_getElem? (i := 698) (by decide +kernel)) (by decide +kernel), gT_in (List.mem_of_getElem? (i := 54) (by decide +kernel)) (by decide +kernel), by decide +kernel, by decide +kernel, by decide +kernel, by decide⟩
theorem mv_X3_tear : MV yX3_tear := ⟨gT_in (List.mem_of_getElem? (i := 696) (by decide +kernel)) (by decide +kernel), gT_in (List.mem_of_getElem? (i := 697) (by decide +kernel)) (by decide +kernel)⟩
theorem mi_X3_count : MI yX3_count cX3_count 2 (some .int) 1 := ⟨gT_in (List.mem_of_getElem? (i := 702) (by decide +kernel)) (by decide +kernel), gT_in (List.mem_of_getElem? (i := 54) (by decide +kernel)) (by decide +kernel), by decide +kernel, by decide +kernel, by decide +kernel, by decide⟩
theorem mv_X3_count : MV yX3_count := ⟨gT_in (List.mem_of_getElem? (i := 700) (by decide +kernel)) (by decide +kernel), gT_in (List.mem_of_getElem? (i := 701) (by decide +kernel)) (by decide +kernel)⟩
theorem mi_X0_spotsInUse : MI yX0_spotsInUse cX0_spotsInUse 3 (some .int) 0 := ⟨gT_in (List.mem_of_getElem? (i := 706) (by decide +kernel)) (by decide +kernel), gT_in (List.mem_of_getElem? (i := 55) (by decide +kernel)) (by decide +kernel), by decide +kernel, by decide +kernel, by decide +kernel, by decide⟩
theorem mv_X0_spotsInUse : MV yX0_spotsInUse := ⟨gT_in (List.mem_of_getElem? (i := 704) (by decide +kernel)) (by decide +kernel), gT_in (List.mem_of_getElem? (i := 705) (by decide +kernel)) (by decide +kernel)⟩
theorem mi_X3_status : MI yX3_status cX3_status 4 (some .int) 1 := ⟨gT_in (List.mem_of_getElem? (i := 710) (by decide +kernel)) (by decide +kernel), gT_in (List.mem_of_getElem? (i := 54) (by decide +kernel)) (by decide +kernel), by decide +kernel, by decide +kernel, by decide +kernel, by decide⟩
theorem mv_X3_status : MV yX3_status := ⟨gT_in (List.mem_of_getElem? (i := 708) (by decide +kernel)) (by decide +kernel), gT_in (List.mem_of_getElem? (i := 709) (by decide +kernel)) (by decide +kernel)⟩
theorem mi_X4_init : MI yX4_init cX4_init 2 none 0 := ⟨gT_in (List.mem_of_getElem? (i := 715) (by decide +kernel)) (by decide +kernel), gT_in (List.mem_of_getElem? (i := 58) (by decide +kernel)) (by decide +kernel), by decide +kernel, by decide +kernel, by decide +kernel, by decide⟩
theorem mi_X4_list : MI yX4_list cX4_list 4 (some .int) 3 := ⟨gT_in (List.mem_of_getElem? (i := 766) (by decide +kernel)) (by decide +kernel), gT_in (List.mem_of_getElem? (i := 58) (by decide +kernel)) (by decide +kernel), by decide +kernel, by decide +kernel, by decide +kernel, by decide⟩
theorem mv_X4_list : MV yX4_list := ⟨gT_in (List.mem_of_getElem? (i := 764) (by decide +kernel)) (by decide +kernel), gT_in (List.mem_of_getElem? (i := 765) (by decide +kernel)) (by decide +kernel)⟩
theorem mi_X4_isPlace : MI yX4_isPlace cX4_isPlace 1 (some .boolean) 1 := ⟨gT_in (List.mem_of_getElem? (i := 769) (by decide +kernel)) (by decide +kernel), gT_in (List.mem_of_getElem? (i := 58) (by decide +kernel)) (by decide +kernel), by decide +kernel, by decide +kernel, by decide +kernel, by decide⟩
theorem ms_X4_isPlace : Cond.static yX4_isPlace ∈ gT := gT_in (List.mem_of_getElem? (i := 768) (by decide +kernel)) (by decide +kernel)
theorem mi_X4_in : MI yX4_in cX4_in 3 (some .boolean) 3 := ⟨gT_in (List.mem_of_getElem? (i := 772) (by decide +kernel)) (by decide +kernel), gT_in (List.mem_of_getElem? (i := 58) (by decide +kernel)) (by decide +kernel), by decide +kernel, by decide +kernel, by decide +kernel, by decide⟩
theorem ms_X4_in : Cond.static yX4_in ∈ gT := gT_in (List.mem_of_getElem? (i := 771) (by decide +kernel)) (by decide +kernel)
theorem mi_X4_becomes : MI yX4_becomes cX4_becomes 4 (some .int) 2 := ⟨gT_in (List.mem_of_getElem? (i := 776) (by decide +kernel)) (by decide +kernel), gT_in (List.mem_of_getElem? (i := 58) (by decide +kernel)) (by decide +kernel), by decide +kernel, by decide +kernel, by decide +kernel, by decide⟩
theorem mv_X4_becomes : MV yX4_becomes := ⟨gT_in (List.mem_of_getElem? (i := 775) (by decide +kernel)) (by decide +kernel), gT_in (List.mem_of_getElem? (i := 6) (by decide +kernel)) (by decide +kernel)⟩
theorem mi_X4_finds : MI yX4_finds cX4_finds 2 (some .int) 1 := ⟨gT_in (List.mem_of_getElem? (i := 781) (by decide +kernel)) (by decide +kernel), gT_in (List.mem_of_getElem? (i := 58) (by decide +kernel)) (by decide +kernel), by decide +kernel, by decide +kernel, by decide +kernel, by decide⟩
theorem mv_X4_finds : MV yX4_finds := ⟨gT_in (List.mem_of_getElem? (i := 780) (by decide +kernel)) (by decide +kernel), gT_in (List.mem_of_getElem? (i := 7) (by decide +kernel)) (by decide +kernel)⟩
theorem mi_X4_listed : MI yX4_listed cX4_listed 2 (some .int) 1 := ⟨gT_in (List.mem_of_getElem? (i := 785) (by decide +kernel)) (by decide +kernel), gT_in (List.mem_of_getElem? (i := 58) (by decide +kernel)) (by decide +kernel), by decide +kernel, by decide +kernel, by decide +kernel, by decide⟩
theorem mv_X4_listed : MV yX4_listed := ⟨gT_in (List.mem_of_getElem? (i := 783) (by decide +kernel)) (by decide +kernel), gT_in (List.mem_of_getElem? (i := 784) (by decide +kernel)) (by decide +kernel)⟩
theorem mi_X4_dish : MI yX4_dish cX4_dish 4 (some .int) 3 := ⟨gT_in (List.mem_of_getElem? (i := 789) (by decide +kernel)) (by decide +kernel), gT_in (List.mem_of_getElem? (i := 58) (by decide +kernel)) (by decide +kernel), by decide +kernel, by decide +kernel, by decide +kernel, by decide⟩
theorem mv_X4_dish : MV yX4_dish := ⟨gT_in (List.mem_of_getElem? (i := 787) (by decide +kernel)) (by decide +kernel), gT_in (List.mem_of_getElem? (i := 788) (by decide +kernel)) (by decide +kernel)⟩
theorem mi_X4_isTown : MI yX4_isTown cX4_isTown 1 (some .boolean) 1 := ⟨gT_in (List.mem_of_getElem? (i := 792) (by decide +kernel)) (by decide +kernel), gT_in (List.mem_of_getElem? (i := 58) (by decide +kernel)) (by decide +kernel), by decide +kernel, by decide +kernel, by decide +kernel, by decide⟩
theorem ms_X4_isTown : Cond.static yX4_isTown ∈ gT := gT_in (List.mem_of_getElem? (i := 791) (by decide +kernel)) (by decide +kernel)
theorem mi_X4_comes : MI yX4_comes cX4_comes 5 (some .int) 3 := ⟨gT_in (List.mem_of_getElem? (i := 797) (by decide +kernel)) (by decide +kernel), gT_in (List.mem_of_getElem? (i := 58) (by decide +kernel)) (by decide +kernel), by decide +kernel, by decide +kernel, by decide +kernel, by decide⟩
theorem mv_X4_comes : MV yX4_comes := ⟨gT_in (List.mem_of_getElem? (i := 796) (by decide +kernel)) (by decide +kernel), gT_in (List.mem_of_getElem? (i := 8) (by decide +kernel)) (by decide +kernel)⟩
theorem mi_X4_put : MI yX4_put cX4_put 4 none 3 := ⟨gT_in (List.mem_of_getElem? (i := 801) (by decide +kernel)) (by decide +kernel), gT_in (List.mem_of_getElem? (i := 58) (by decide +kernel)) (by decide +kernel), by decide +kernel, by decide +kernel, by decide +kernel, by decide⟩
theorem mv_X4_put : MV yX4_put := ⟨gT_in (List.mem_of_getElem? (i := 800) (by decide +kernel)) (by decide +kernel), gT_in (List.mem_of_getElem? (i := 9) (by decide +kernel)) (by decide +kernel)⟩
theorem mi_X4_guest : MI yX4_guest cX4_guest 2 (some .int) 1 := ⟨gT_in (List.mem_of_getElem? (i := 805) (by decide +kernel)) (by decide +kernel), gT_in (List.mem_of_getElem? (i := 58) (by decide +kernel)) (by decide +kernel), by decide +kernel, by decide +kernel, by decide +kernel, by decide⟩
theorem mv_X4_guest : MV yX4_guest := ⟨gT_in (List.mem_of_getElem? (i := 803) (by decide +kernel)) (by decide +kernel), gT_in (List.mem_of_getElem? (i := 804) (by decide +kernel)) (by decide +kernel)⟩
theorem mi_X4_enters : MI yX4_enters cX4_enters 4 (some .int) 2 := ⟨gT_in (List.mem_of_getElem? (i := 809) (by decide +kernel)) (by decide +kernel), gT_in (List.mem_of_getElem? (i := 58) (by decide +kernel)) (by decide +kernel), by decide +kernel, by decide +kernel, by decide +kernel, by decide⟩
theorem mv_X4_enters : MV yX4_enters := ⟨gT_in (List.mem_of_getElem? (i := 808) (by decide +kernel)) (by decide +kernel), gT_in (List.mem_of_getElem? (i := 10) (by decide +kernel)) (by decide +kernel)⟩
theorem mi_X4_lets : MI yX4_lets cX4_lets 4 none 3 := ⟨gT_in (List.mem_of_getElem? (i := 813) (by decide +kernel)) (by decide +kernel), gT_in (List.mem_of_getElem? (i := 58) (by decide +kernel)) (by decide +kernel), by decide +kernel, by decide +kernel, by decide +kernel, by decide⟩
theorem mv_X4_lets : MV yX4_lets := ⟨gT_in (List.mem_of_getElem? (i := 812) (by decide +kernel)) (by decide +kernel), gT_in (List.mem_of_getElem? (i := 11) (by decide +kernel)) (by decide +kernel)⟩
theorem mi_X4_of : MI yX4_of cX4_of 3 (some .int) 2 := ⟨gT_in (List.mem_of_getElem? (i := 817) (by decide +kernel)) (by decide +kernel), gT_in (List.mem_of_getElem? (i := 58) (by decide +kernel)) (by decide +kernel), by decide +kernel, by decide +kernel, by decide +kernel, by decide⟩
theorem mv_X4_of : MV yX4_of := ⟨gT_in (List.mem_of_getElem? (i := 815) (by decide +kernel)) (by decide +kernel), gT_in (List.mem_of_getElem? (i := 816) (by decide +kernel)) (by decide +kernel)⟩
theorem mi_X4_isDish : MI yX4_isDish cX4_isDish 2 (some .boolean) 1 := ⟨gT_in (List.mem_of_getElem? (i := 821) (by decide +kernel)) (by decide +kernel), gT_in (List.mem_of_getElem? (i := 58) (by decide +kernel)) (by decide +kernel), by decide +kernel, by decide +kernel, by decide +kernel, by decide⟩
theorem mv_X4_isDish : MV yX4_isDish := ⟨gT_in (List.mem_of_getElem? (i := 820) (by decide +kernel)) (by decide +kernel), gT_in (List.mem_of_getElem? (i := 12) (by decide +kernel)) (by decide +kernel)⟩
theorem mi_X4_it : MI yX4_it cX4_it 3 (some .int) 2 := ⟨gT_in (List.mem_of_getElem? (i := 825) (by decide +kernel)) (by decide +kernel), gT_in (List.mem_of_getElem? (i := 58) (by decide +kernel)) (by decide +kernel), by decide +kernel, by decide +kernel, by decide +kernel, by decide⟩
theorem mv_X4_it : MV yX4_it := ⟨gT_in (List.mem_of_getElem? (i := 824) (by decide +kernel)) (by decide +kernel), gT_in (List.mem_of_getElem? (i := 13) (by decide +kernel)) (by decide +kernel)⟩
theorem mi_X4_change : MI yX4_change cX4_change 4 (some .int) 3 := ⟨gT_in (List.mem_of_getElem? (i := 829) (by decide +kernel)) (by decide +kernel), gT_in (List.mem_of_getElem? (i := 58) (by decide +kernel)) (by decide +kernel), by decide +kernel, by decide +kernel, by decide +kernel, by decide⟩
theorem mv_X4_change : MV yX4_change := ⟨gT_in (List.mem_of_getElem? (i := 827) (by decide +kernel)) (by decide +kernel), gT_in (List.mem_of_getElem? (i := 828) (by decide +kernel)) (by decide +kernel)⟩
theorem mi_X4_mostOf : MI yX4_mostOf cX4_mostOf 1 (some .int) 1 := ⟨gT_in (List.mem_of_getElem? (i := 832) (by decide +kernel)) (by decide +kernel), gT_in (List.mem_of_getElem? (i := 58) (by decide +kernel)) (by decide +kernel), by decide +kernel, by decide +kernel, by decide +kernel, by decide⟩
theorem ms_X4_mostOf : Cond.static yX4_mostOf ∈ gT := gT_in (List.mem_of_getElem? (i := 831) (by decide +kernel)) (by decide +kernel)
theorem mi_X4_ofGuest : MI yX4_ofGuest cX4_ofGuest 3 (some .int) 2 := ⟨gT_in (List.mem_of_getElem? (i := 836) (by decide +kernel)) (by decide +kernel), gT_in (List.mem_of_getElem? (i := 58) (by decide +kernel)) (by decide +kernel), by decide +kernel, by decide +kernel, by decide +kernel, by decide⟩
theorem mv_X4_ofGuest : MV yX4_ofGuest := ⟨gT_in (List.mem_of_getElem? (i := 834) (by decide +kernel)) (by decide +kernel), gT_in (List.mem_of_getElem? (i := 835) (by decide +kernel)) (by decide +kernel)⟩
theorem mi_X4_isGuest : MI yX4_isGuest cX4_isGuest 2 (some .boolean) 1 := ⟨gT_in (List.mem_of_getElem? (i := 840) (by decide +kernel)) (by decide +kernel), gT_in (List.mem_of_getElem? (i := 58) (by decide +kernel)) (by decide +kernel), by decide +kernel, by decide +kernel, by decide +kernel, by decide⟩
theorem mv_X4_isGuest : MV yX4_isGuest := ⟨gT_in (List.mem_of_getElem? (i := 839) (by decide +kernel)) (by decide +kernel), gT_in (List.mem_of_getElem? (i := 14) (by decide +kernel)) (by decide +kernel)⟩
theorem mi_X4_his : MI yX4_his cX4_his 3 (some .int) 2 := ⟨gT_in (List.mem_of_getElem? (i := 844) (by decide +kernel)) (by decide +kernel), gT_in (List.mem_of_getElem? (i := 58) (by decide +kernel)) (by decide +kernel), by decide +kernel, by decide +kernel, by decide +kernel, by decide⟩
theorem mv_X4_his : MV yX4_his := ⟨gT_in (List.mem_of_getElem? (i := 843) (by decide +kernel)) (by decide +kernel), gT_in (List.mem_of_getElem? (i := 15) (by decide +kernel)) (by decide +kernel)⟩
theorem mi_X4_seat : MI yX4_seat cX4_seat 4 (some .int) 3 := ⟨gT_in (List.mem_of_getElem? (i := 848) (by decide +kernel)) (by decide +kernel), gT_in (List.mem_of_getElem? (i := 58) (by decide +kernel)) (by decide +kernel), by decide +kernel, by decide +kernel, by decide +kernel, by decide⟩
theorem mv_X4_seat : MV yX4_seat := ⟨gT_in (List.mem_of_getElem? (i := 846) (by decide +kernel)) (by decide +kernel), gT_in (List.mem_of_getElem? (i := 847) (by decide +kernel)) (by decide +kernel)⟩
theorem mi_X4_mostOfGuest : MI yX4_mostOfGuest cX4_mostOfGuest 1 (some .int) 1 := ⟨gT_in (List.mem_of_getElem? (i := 851) (by decide +kernel)) (by decide +kernel), gT_in (List.mem_of_getElem? (i := 58) (by decide +kernel)) (by decide +kernel), by decide +kernel, by decide +kernel, by decide +kernel, by decide⟩
theorem ms_X4_mostOfGuest : Cond.static yX4_mostOfGuest ∈ gT := gT_in (List.mem_of_getElem? (i := 850) (by decide +kernel)) (by decide +kernel)
theorem mi_X4_would : MI yX4_would cX4_would 5 (some .int) 3 := ⟨gT_in (List.mem_of_getElem? (i := 856) (by decide +kernel)) (by decide +kernel), gT_in (List.mem_of_getElem? (i := 58) (by decide +kernel)) (by decide +kernel), by decide +kernel, by decide +kernel, by decide +kernel, by decide⟩
theorem mv_X4_would : MV yX4_would := ⟨gT_in (List.mem_of_getElem? (i := 854) (by decide +kernel)) (by decide +kernel), gT_in (List.mem_of_getElem? (i := 855) (by decide +kernel)) (by decide +kernel)⟩
theorem mi_X4_isLeft : MI yX4_isLeft cX4_isLeft 5 (some .boolean) 2 := ⟨gT_in (List.mem_of_getElem? (i := 860) (by decide +kernel)) (by decide +kernel), gT_in (List.mem_of_getElem? (i := 58) (by decide +kernel)) (by decide +kernel), by decide +kernel, by decide +kernel, by decide +kernel, by decide⟩
theorem mv_X4_isLeft : MV yX4_isLeft := ⟨gT_in (List.mem_of_getElem? (i := 859) (by decide +kernel)) (by decide +kernel), gT_in (List.mem_of_getElem? (i := 16) (by decide +kernel)) (by decide +kernel)⟩
theorem mi_X4_isAnotherFor : MI yX4_isAnotherFor cX4_isAnotherFor 5 (some .boolean) 2 := ⟨gT_in (List.mem_of_getElem? (i := 864) (by decide +kernel)) (by decide +kernel), gT_in (List.mem_of_getElem? (i := 58) (by decide +kernel)) (by decide +kernel), by decide +kernel, by decide +kernel, by decide +kernel, by decide⟩
theorem mv_X4_isAnotherFor : MV yX4_isAnotherFor := ⟨gT_in (List.mem_of_getElem? (i := 863) (by decide +kernel)) (by decide +kernel), gT_in (List.mem_of_getElem? (i := 17) (by decide +kernel)) (by decide +kernel)⟩
theorem mi_X4_costs : MI yX4_costs cX4_costs 6 (some .int) 3 := ⟨gT_in (List.mem_of_getElem? (i := 868) (by decide +kernel)) (by decide +kernel), gT_in (List.mem_of_getElem? (i := 58) (by decide +kernel)) (by decide +kernel), by decide +kernel, by decide +kernel, by decide +kernel, by decide⟩
theorem mv_X4_costs : MV yX4_costs := ⟨gT_in (List.mem_of_getElem? (i := 867) (by decide +kernel)) (by decide +kernel), gT_in (List.mem_of_getElem? (i := 18) (by decide +kernel)) (by decide +kernel)⟩
theorem mi_X4_bends : MI yX4_bends cX4_bends 4 (some .int) 2 := ⟨gT_in (List.mem_of_getElem? (i := 872) (by decide +kernel)) (by decide +kernel), gT_in (List.mem_of_getElem? (i := 58) (by decide +kernel)) (by decide +kernel), by decide +kernel, by decide +kernel, by decide +kernel, by decide⟩
theorem mv_X4_bends : MV yX4_bends := ⟨gT_in (List.mem_of_getElem? (i := 871) (by decide +kernel)) (by decide +kernel), gT_in (List.mem_of_getElem? (i := 19) (by decide +kernel)) (by decide +kernel)⟩
theorem mi_X4_eat : MI yX4_eat cX4_eat 3 (some .int) 2 := ⟨gT_in (List.mem_of_getElem? (i := 876) (by decide +kernel)) (by decide +kernel), gT_in (List.mem_of_getElem? (i := 58) (by decide +kernel)) (by decide +kernel), by decide +kernel, by decide +kernel, by decide +kernel, by decide⟩
theorem mv_X4_eat : MV yX4_eat := ⟨gT_in (List.mem_of_getElem? (i := 874) (by decide +kernel)) (by decide +kernel), gT_in (List.mem_of_getElem? (i := 875) (by decide +kernel)) (by decide +kernel)⟩
theorem mi_X4_eats : MI yX4_eats cX4_eats 5 (some .int) 2 := ⟨gT_in (List.mem_of_getElem? (i := 881) (by decide +kernel)) (by decide +kernel), gT_in (List.mem_of_getElem? (i := 58) (by decide +kernel)) (by decide +kernel), by decide +kernel, by decide +kernel, by decide +kernel, by decide⟩
theorem mv_X4_eats : MV yX4_eats := ⟨gT_in (List.mem_of_getElem? (i := 880) (by decide +kernel)) (by decide +kernel), gT_in (List.mem_of_getElem? (i := 20) (by decide +kernel)) (by decide +kernel)⟩
theorem mi_X4_held : MI yX4_held cX4_held 3 (some .int) 3 := ⟨gT_in (List.mem_of_getElem? (i := 884) (by decide +kernel)) (by decide +kernel), gT_in (List.mem_of_getElem? (i := 58) (by decide +kernel)) (by decide +kernel), by decide +kernel, by decide +kernel, by decide +kernel, by decide⟩
theorem ms_X4_held : Cond.static yX4_held ∈ gT := gT_in (List.mem_of_getElem? (i := 883) (by decide +kernel)) (by decide +kernel)
theorem mi_X4_go : MI yX4_go cX4_go 2 (some .int) 1 := ⟨gT_in (List.mem_of_getElem? (i := 888) (by decide +kernel)) (by decide +kernel), gT_in (List.mem_of_getElem? (i := 58) (by decide +kernel)) (by decide +kernel), by decide +kernel, by decide +kernel, by decide +kernel, by decide⟩
theorem mv_X4_go : MV yX4_go := ⟨gT_in (List.mem_of_getElem? (i := 886) (by decide +kernel)) (by decide +kernel), gT_in (List.mem_of_getElem? (i := 887) (by decide +kernel)) (by decide +kernel)⟩
theorem mi_X4_goesFor : MI yX4_goesFor cX4_goesFor 3 none 1 := ⟨gT_in (List.mem_of_getElem? (i := 892) (by decide +kernel)) (by decide +kernel), gT_in (List.mem_of_getElem? (i := 58) (by decide +kernel)) (by decide +kernel), by decide +kernel, by decide +kernel, by decide +kernel, by decide⟩
theorem mv_X4_goesFor : MV yX4_goesFor := ⟨gT_in (List.mem_of_getElem? (i := 891) (by decide +kernel)) (by decide +kernel), gT_in (List.mem_of_getElem? (i := 21) (by decide +kernel)) (by decide +kernel)⟩
theorem mi_X4_goes : MI yX4_goes cX4_goes 3 none 0 := ⟨gT_in (List.mem_of_getElem? (i := 896) (by decide +kernel)) (by decide +kernel), gT_in (List.mem_of_getElem? (i := 58) (by decide +kernel)) (by decide +kernel), by decide +kernel, by decide +kernel, by decide +kernel, by decide⟩
theorem mv_X4_goes : MV yX4_goes := ⟨gT_in (List.mem_of_getElem? (i := 895) (by decide +kernel)) (by decide +kernel), gT_in (List.mem_of_getElem? (i := 22) (by decide +kernel)) (by decide +kernel)⟩
theorem mi_X4_bills : MI yX4_bills cX4_bills 3 (some .int) 0 := ⟨gT_in (List.mem_of_getElem? (i := 900) (by decide +kernel)) (by decide +kernel), gT_in (List.mem_of_getElem? (i := 58) (by decide +kernel)) (by decide +kernel), by decide +kernel, by decide +kernel, by decide +kernel, by decide⟩
theorem mv_X4_bills : MV yX4_bills := ⟨gT_in (List.mem_of_getElem? (i := 899) (by decide +kernel)) (by decide +kernel), gT_in (List.mem_of_getElem? (i := 23) (by decide +kernel)) (by decide +kernel)⟩
theorem mi_X4_now : MI yX4_now cX4_now 2 (some .int) 1 := ⟨gT_in (List.mem_of_getElem? (i := 904) (by decide +kernel)) (by decide +kernel), gT_in (List.mem_of_getElem? (i := 58) (by decide +kernel)) (by decide +kernel), by decide +kernel, by decide +kernel, by decide +kernel, by decide⟩
theorem mv_X4_now : MV yX4_now := ⟨gT_in (List.mem_of_getElem? (i := 902) (by decide +kernel)) (by decide +kernel), gT_in (List.mem_of_getElem? (i := 903) (by decide +kernel)) (by decide +kernel)⟩
theorem mi_X4_aims : MI yX4_aims cX4_aims 3 (some .int) 0 := ⟨gT_in (List.mem_of_getElem? (i := 908) (by decide +kernel)) (by decide +kernel), gT_in (List.mem_of_getElem? (i := 58) (by decide +kernel)) (by decide +kernel), by decide +kernel, by decide +kernel, by decide +kernel, by decide⟩
theorem mv_X4_aims : MV yX4_aims := ⟨gT_in (List.mem_of_getElem? (i := 907) (by decide +kernel)) (by decide +kernel), gT_in (List.mem_of_getElem? (i := 24) (by decide +kernel)) (by decide +kernel)⟩
theorem mi_X4_allBeen : MI yX4_allBeen cX4_allBeen 3 (some .int) 0 := ⟨gT_in (List.mem_of_getElem? (i := 912) (by decide +kernel)) (by decide +kernel), gT_in (List.mem_of_getElem? (i := 58) (by decide +kernel)) (by decide +kernel), by decide +kernel, by decide +kernel, by decide +kernel, by decide⟩
theorem mv_X4_allBeen : MV yX4_allBeen := ⟨gT_in (List.mem_of_getElem? (i := 911) (by decide +kernel)) (by decide +kernel), gT_in (List.mem_of_getElem? (i := 25) (by decide +kernel)) (by decide +kernel)⟩
theorem mi_X4_allServed : MI yX4_allServed cX4_allServed 3 (some .int) 0 := ⟨gT_in (List.mem_of_getElem? (i := 916) (by decide +kernel)) (by decide +kernel), gT_in (List.mem_of_getElem? (i := 58) (by decide +kernel)) (by decide +kernel), by decide +kernel, by decide +kernel, by decide +kernel, by decide⟩
theorem mv_X4_allServed : MV yX4_allServed := ⟨gT_in (List.mem_of_getElem? (i := 915) (by decide +kernel)) (by decide +kernel), gT_in (List.mem_of_getElem? (i := 26) (by decide +kernel)) (by decide +kernel)⟩
theorem mi_X4_pairsApart : MI yX4_pairsApart cX4_pairsApart 4 (some .int) 0 := ⟨gT_in (List.mem_of_getElem? (i := 920) (by decide +kernel)) (by decide +kernel), gT_in (List.mem_of_getElem? (i := 58) (by decide +kernel)) (by decide +kernel), by decide +kernel, by decide +kernel, by decide +kernel, by decide⟩
theorem mv_X4_pairsApart : MV yX4_pairsApart := ⟨gT_in (List.mem_of_getElem? (i := 919) (by decide +kernel)) (by decide +kernel), gT_in (List.mem_of_getElem? (i := 27) (by decide +kernel)) (by decide +kernel)⟩
theorem mi_X4_onCard : MI yX4_onCard cX4_onCard 3 (some .int) 0 := ⟨gT_in (List.mem_of_getElem? (i := 924) (by decide +kernel)) (by decide +kernel), gT_in (List.mem_of_getElem? (i := 58) (by decide +kernel)) (by decide +kernel), by decide +kernel, by decide +kernel, by decide +kernel, by decide⟩
theorem mv_X4_onCard : MV yX4_onCard := ⟨gT_in (List.mem_of_getElem? (i := 923) (by decide +kernel)) (by decide +kernel), gT_in (List.mem_of_getElem? (i := 28) (by decide +kernel)) (by decide +kernel)⟩
theorem mi_X4_debtor : MI yX4_debtor cX4_debtor 3 (some .int) 0 := ⟨gT_in (List.mem_of_getElem? (i := 928) (by decide +kernel)) (by decide +kernel), gT_in (List.mem_of_getElem? (i := 58) (by decide +kernel)) (by decide +kernel), by decide +kernel, by decide +kernel, by decide +kernel, by decide⟩
theorem mv_X4_debtor : MV yX4_debtor := ⟨gT_in (List.mem_of_getElem? (i := 927) (by decide +kernel)) (by decide +kernel), gT_in (List.mem_of_getElem? (i := 29) (by decide +kernel)) (by decide +kernel)⟩
theorem mi_X4_ahead : MI yX4_ahead cX4_ahead 4 (some .int) 3 := ⟨gT_in (List.mem_of_getElem? (i := 932) (by decide +kernel)) (by decide +kernel), gT_in (List.mem_of_getElem? (i := 58) (by decide +kernel)) (by decide +kernel), by decide +kernel, by decide +kernel, by decide +kernel, by decide⟩
theorem mv_X4_ahead : MV yX4_ahead := ⟨gT_in (List.mem_of_getElem? (i := 930) (by decide +kernel)) (by decide +kernel), gT_in (List.mem_of_getElem? (i := 931) (by decide +kernel)) (by decide +kernel)⟩
theorem mi_X4_behind : MI yX4_behind cX4_behind 4 (some .int) 2 := ⟨gT_in (List.mem_of_getElem? (i := 936) (by decide +kernel)) (by decide +kernel), gT_in (List.mem_of_getElem? (i := 58) (by decide +kernel)) (by decide +kernel), by decide +kernel, by decide +kernel, by decide +kernel, by decide⟩
theorem mv_X4_behind : MV yX4_behind := ⟨gT_in (List.mem_of_getElem? (i := 935) (by decide +kernel)) (by decide +kernel), gT_in (List.mem_of_getElem? (i := 30) (by decide +kernel)) (by decide +kernel)⟩
theorem mi_X4_thinks : MI yX4_thinks cX4_thinks 1 none 0 := ⟨gT_in (List.mem_of_getElem? (i := 940) (by decide +kernel)) (by decide +kernel), gT_in (List.mem_of_getElem? (i := 58) (by decide +kernel)) (by decide +kernel), by decide +kernel, by decide +kernel, by decide +kernel, by decide⟩
theorem mv_X4_thinks : MV yX4_thinks := ⟨gT_in (List.mem_of_getElem? (i := 939) (by decide +kernel)) (by decide +kernel), gT_in (List.mem_of_getElem? (i := 31) (by decide +kernel)) (by decide +kernel)⟩
theorem mi_X4_copyAll : MI yX4_copyAll cX4_copyAll 3 none 2 := ⟨gT_in (List.mem_of_getElem? (i := 943) (by decide +kernel)) (by decide +kernel), gT_in (List.mem_of_getElem? (i := 58) (by decide +kernel)) (by decide +kernel), by decide +kernel, by decide +kernel, by decide +kernel, by decide⟩
theorem ms_X4_copyAll : Cond.static yX4_copyAll ∈ gT := gT_in (List.mem_of_getElem? (i := 942) (by decide +kernel)) (by decide +kernel)
theorem mi_X4_putsBack : MI yX4_putsBack cX4_putsBack 1 none 0 := ⟨gT_in (List.mem_of_getElem? (i := 947) (by decide +kernel)) (by decide +kernel), gT_in (List.mem_of_getElem? (i := 58) (by decide +kernel)) (by decide +kernel), by decide +kernel, by decide +kernel, by decide +kernel, by decide⟩
theorem mv_X4_putsBack : MV yX4_putsBack := ⟨gT_in (List.mem_of_getElem? (i := 946) (by decide +kernel)) (by decide +kernel), gT_in (List.mem_of_getElem? (i := 32) (by decide +kernel)) (by decide +kernel)⟩
theorem mi_X4_served : MI yX4_served cX4_served 3 (some .int) 2 := ⟨gT_in (List.mem_of_getElem? (i := 951) (by decide +kernel)) (by decide +kernel), gT_in (List.mem_of_getElem? (i := 58) (by decide +kernel)) (by decide +kernel), by decide +kernel, by decide +kernel, by decide +kernel, by decide⟩
theorem mv_X4_served : MV yX4_served := ⟨gT_in (List.mem_of_getElem? (i := 949) (by decide +kernel)) (by decide +kernel), gT_in (List.mem_of_getElem? (i := 950) (by decide +kernel)) (by decide +kernel)⟩
theorem mi_X4_when : MI yX4_when cX4_when 4 (some .int) 2 := ⟨gT_in (List.mem_of_getElem? (i := 955) (by decide +kernel)) (by decide +kernel), gT_in (List.mem_of_getElem? (i := 58) (by decide +kernel)) (by decide +kernel), by decide +kernel, by decide +kernel, by decide +kernel, by decide⟩
theorem mv_X4_when : MV yX4_when := ⟨gT_in (List.mem_of_getElem? (i := 953) (by decide +kernel)) (by decide +kernel), gT_in (List.mem_of_getElem? (i := 954) (by decide +kernel)) (by decide +kernel)⟩
theorem mi_X4_owes : MI yX4_owes cX4_owes 4 (some .int) 2 := ⟨gT_in (List.mem_of_getElem? (i := 960) (by decide +kernel)) (by decide +kernel), gT_in (List.mem_of_getElem? (i := 58) (by decide +kernel)) (by decide +kernel), by decide +kernel, by decide +kernel, by decide +kernel, by decide⟩
theorem mv_X4_owes : MV yX4_owes := ⟨gT_in (List.mem_of_getElem? (i := 958) (by decide +kernel)) (by decide +kernel), gT_in (List.mem_of_getElem? (i := 959) (by decide +kernel)) (by decide +kernel)⟩
theorem mi_X4_part : MI yX4_part cX4_part 4 (some .int) 2 := ⟨gT_in (List.mem_of_getElem? (i := 964) (by decide +kernel)) (by decide +kernel), gT_in (List.mem_of_getElem? (i := 58) (by decide +kernel)) (by decide +kernel), by decide +kernel, by decide +kernel, by decide +kernel, by decide⟩
theorem mv_X4_part : MV yX4_part := ⟨gT_in (List.mem_of_getElem? (i := 962) (by decide +kernel)) (by decide +kernel), gT_in (List.mem_of_getElem? (i := 963) (by decide +kernel)) (by decide +kernel)⟩
theorem mi_X4_dishFor : MI yX4_dishFor cX4_dishFor 3 (some .int) 2 := ⟨gT_in (List.mem_of_getElem? (i := 968) (by decide +kernel)) (by decide +kernel), gT_in (List.mem_of_getElem? (i := 58) (by decide +kernel)) (by decide +kernel), by decide +kernel, by decide +kernel, by decide +kernel, by decide⟩
theorem mv_X4_dishFor : MV yX4_dishFor := ⟨gT_in (List.mem_of_getElem? (i := 966) (by decide +kernel)) (by decide +kernel), gT_in (List.mem_of_getElem? (i := 967) (by decide +kernel)) (by decide +kernel)⟩
theorem mi_X4_leastBy : MI yX4_leastBy cX4_leastBy 10 (some .int) 4 := ⟨gT_in (List.mem_of_getElem? (i := 972) (by decide +kernel)) (by decide +kernel), gT_in (List.mem_of_getElem? (i := 58) (by decide +kernel)) (by decide +kernel), by decide +kernel, by decide +kernel, by decide +kernel, by decide⟩
theorem mv_X4_leastBy : MV yX4_leastBy := ⟨gT_in (List.mem_of_getElem? (i := 971) (by decide +kernel)) (by decide +kernel), gT_in (List.mem_of_getElem? (i := 33) (by decide +kernel)) (by decide +kernel)⟩
theorem mi_X4_kindFor : MI yX4_kindFor cX4_kindFor 3 (some .int) 2 := ⟨gT_in (List.mem_of_getElem? (i := 976) (by decide +kernel)) (by decide +kernel), gT_in (List.mem_of_getElem? (i := 58) (by decide +kernel)) (by decide +kernel), by decide +kernel, by decide +kernel, by decide +kernel, by decide⟩
theorem mv_X4_kindFor : MV yX4_kindFor := ⟨gT_in (List.mem_of_getElem? (i := 974) (by decide +kernel)) (by decide +kernel), gT_in (List.mem_of_getElem? (i := 975) (by decide +kernel)) (by decide +kernel)⟩
theorem mi_X4_bentFor : MI yX4_bentFor cX4_bentFor 6 (some .int) 3 := ⟨gT_in (List.mem_of_getElem? (i := 980) (by decide +kernel)) (by decide +kernel), gT_in (List.mem_of_getElem? (i := 58) (by decide +kernel)) (by decide +kernel), by decide +kernel, by decide +kernel, by decide +kernel, by decide⟩
theorem mv_X4_bentFor : MV yX4_bentFor := ⟨gT_in (List.mem_of_getElem? (i := 978) (by decide +kernel)) (by decide +kernel), gT_in (List.mem_of_getElem? (i := 979) (by decide +kernel)) (by decide +kernel)⟩
theorem mi_X4_orNone : MI yX4_orNone cX4_orNone 2 (some .int) 1 := ⟨gT_in (List.mem_of_getElem? (i := 984) (by decide +kernel)) (by decide +kernel), gT_in (List.mem_of_getElem? (i := 58) (by decide +kernel)) (by decide +kernel), by decide +kernel, by decide +kernel, by decide +kernel, by decide⟩
theorem mv_X4_orNone : MV yX4_orNone := ⟨gT_in (List.mem_of_getElem? (i := 983) (by decide +kernel)) (by decide +kernel), gT_in (List.mem_of_getElem? (i := 34) (by decide +kernel)) (by decide +kernel)⟩
theorem mi_X4_courses : MI yX4_courses cX4_courses 6 (some .int) 2 := ⟨gT_in (List.mem_of_getElem? (i := 988) (by decide +kernel)) (by decide +kernel), gT_in (List.mem_of_getElem? (i := 58) (by decide +kernel)) (by decide +kernel), by decide +kernel, by decide +kernel, by decide +kernel, by decide⟩
theorem mv_X4_courses : MV yX4_courses := ⟨gT_in (List.mem_of_getElem? (i := 986) (by decide +kernel)) (by decide +kernel), gT_in (List.mem_of_getElem? (i := 987) (by decide +kernel)) (by decide +kernel)⟩
theorem mi_X4_doBring : MI yX4_doBring cX4_doBring 10 (some .boolean) 4 := ⟨gT_in (List.mem_of_getElem? (i := 992) (by decide +kernel)) (by decide +kernel), gT_in (List.mem_of_getElem? (i := 58) (by decide +kernel)) (by decide +kernel), by decide +kernel, by decide +kernel, by decide +kernel, by decide⟩
theorem mv_X4_doBring : MV yX4_doBring := ⟨gT_in (List.mem_of_getElem? (i := 991) (by decide +kernel)) (by decide +kernel), gT_in (List.mem_of_getElem? (i := 35) (by decide +kernel)) (by decide +kernel)⟩
theorem mi_X4_strike : MI yX4_strike cX4_strike 7 (some .int) 3 := ⟨gT_in (List.mem_of_getElem? (i := 996) (by decide +kernel)) (by decide +kernel), gT_in (List.mem_of_getElem? (i := 58) (by decide +kernel)) (by decide +kernel), by decide +kernel, by decide +kernel, by decide +kernel, by decide⟩
theorem mv_X4_strike : MV yX4_strike := ⟨gT_in (List.mem_of_getElem? (i := 994) (by decide +kernel)) (by decide +kernel), gT_in (List.mem_of_getElem? (i := 995) (by decide +kernel)) (by decide +kernel)⟩
theorem mi_X4_bits : MI yX4_bits cX4_bits 3 (some .int) 1 := ⟨gT_in (List.mem_of_getElem? (i := 999) (by decide +kernel)) (by decide +kernel), gT_in (List.mem_of_getElem? (i := 58) (by decide +kernel)) (by decide +kernel), by decide +kernel, by decide +kernel, by decide +kernel, by decide⟩
theorem ms_X4_bits : Cond.static yX4_bits ∈ gT := gT_in (List.mem_of_getElem? (i := 998) (by decide +kernel)) (by decide +kernel)
theorem mi_X4_isElsewhere : MI yX4_isElsewhere cX4_isElsewhere 6 (some .boolean) 4 := ⟨gT_in (List.mem_of_getElem? (i := 1003) (by decide +kernel)) (by decide +kernel), gT_in (List.mem_of_getElem? (i := 58) (by decide +kernel)) (by decide +kernel), by decide +kernel, by decide +kernel, by decide +kernel, by decide⟩
theorem mv_X4_isElsewhere : MV yX4_isElsewhere := ⟨gT_in (List.mem_of_getElem? (i := 1002) (by decide +kernel)) (by decide +kernel), gT_in (List.mem_of_getElem? (i := 36) (by decide +kernel)) (by decide +kernel)⟩
theorem mi_X4_fits : MI yX4_fits cX4_fits 6 (some .int) 2 := ⟨gT_in (List.mem_of_getElem? (i := 1007) (by decide +kernel)) (by decide +kernel), gT_in (List.mem_of_getElem? (i := 58) (by decide +kernel)) (by decide +kernel), by decide +kernel, by decide +kernel, by decide +kernel, by decide⟩
theorem mv_X4_fits : MV yX4_fits := ⟨gT_in (List.mem_of_getElem? (i := 1005) (by decide +kernel)) (by decide +kernel), gT_in (List.mem_of_getElem? (i := 1006) (by decide +kernel)) (by decide +kernel)⟩
theorem mi_X4_notThere : MI yX4_notThere cX4_notThere 2 (some .int) 1 := ⟨gT_in (List.mem_of_getElem? (i := 1011) (by decide +kernel)) (by decide +kernel), gT_in (List.mem_of_getElem? (i := 58) (by decide +kernel)) (by decide +kernel), by decide +kernel, by decide +kernel, by decide +kernel, by decide⟩
theorem mv_X4_notThere : MV yX4_notThere := ⟨gT_in (List.mem_of_getElem? (i := 1010) (by decide +kernel)) (by decide +kernel), gT_in (List.mem_of_getElem? (i := 37) (by decide +kernel)) (by decide +kernel)⟩
theorem mi_X4_isSheet : MI yX4_isSheet cX4_isSheet 1 (some .boolean) 1 := ⟨gT_in (List.mem_of_getElem? (i := 1014) (by decide +kernel)) (by decide +kernel), gT_in (List.mem_of_getElem? (i := 58) (by decide +kernel)) (by decide +kernel), by decide +kernel, by decide +kernel, by decide +kernel, by decide⟩
theorem ms_X4_isSheet : Cond.static yX4_isSheet ∈ gT := gT_in (List.mem_of_getElem? (i := 1013) (by decide +kernel)) (by decide +kernel)
theorem mi_X4_isTold : MI yX4_isTold cX4_isTold 6 (some .boolean) 2 := ⟨gT_in (List.mem_of_getElem? (i := 1019) (by decide +kernel)) (by decide +kernel), gT_in (List.mem_of_getElem? (i := 58) (by decide +kernel)) (by decide +kernel), by decide +kernel, by decide +kernel, by decide +kernel, by decide⟩
theorem mv_X4_isTold : MV yX4_isTold := ⟨gT_in (List.mem_of_getElem? (i := 1018) (by decide +kernel)) (by decide +kernel), gT_in (List.mem_of_getElem? (i := 38) (by decide +kernel)) (by decide +kernel)⟩
theorem mi_X4_kinds : MI yX4_kinds cX4_kinds 7 (some .int) 3 := ⟨gT_in (List.mem_of_getElem? (i := 1023) (by decide +kernel)) (by decide +kernel), gT_in (List.mem_of_getElem? (i := 58) (by decide +kernel)) (by decide +kernel), by decide +kernel, by decide +kernel, by decide +kernel, by decide⟩
theorem mv_X4_kinds : MV yX4_kinds := ⟨gT_in (List.mem_of_getElem? (i := 1021) (by decide +kernel)) (by decide +kernel), gT_in (List.mem_of_getElem? (i := 1022) (by decide +kernel)) (by decide +kernel)⟩
theorem mi_X4_coach : MI yX4_coach cX4_coach 4 (some .int) 1 := ⟨gT_in (List.mem_of_getElem? (i := 1027) (by decide +kernel)) (by decide +kernel), gT_in (List.mem_of_getElem? (i := 58) (by decide +kernel)) (by decide +kernel), by decide +kernel, by decide +kernel, by decide +kernel, by decide⟩
theorem mv_X4_coach : MV yX4_coach := ⟨gT_in (List.mem_of_getElem? (i := 1025) (by decide +kernel)) (by decide +kernel), gT_in (List.mem_of_getElem? (i := 1026) (by decide +kernel)) (by decide +kernel)⟩
theorem mi_X4_draw : MI yX4_draw cX4_draw 1 (some .int) 0 := ⟨gT_in (List.mem_of_getElem? (i := 1031) (by decide +kernel)) (by decide +kernel), gT_in (List.mem_of_getElem? (i := 58) (by decide +kernel)) (by decide +kernel), by decide +kernel, by decide +kernel, by decide +kernel, by decide⟩
theorem mv_X4_draw : MV yX4_draw := ⟨gT_in (List.mem_of_getElem? (i := 1030) (by decide +kernel)) (by decide +kernel), gT_in (List.mem_of_getElem? (i := 39) (by decide +kernel)) (by decide +kernel)⟩
theorem mi_X4_odds : MI yX4_odds cX4_odds 11 (some .long) 4 := ⟨gT_in (List.mem_of_getElem? (i := 1036) (by decide +kernel)) (by decide +kernel), gT_in (List.mem_of_getElem? (i := 58) (by decide +kernel)) (by decide +kernel), by decide +kernel, by decide +kernel, by decide +kernel, by decide⟩
theorem mv_X4_odds : MV yX4_odds := ⟨gT_in (List.mem_of_getElem? (i := 1034) (by decide +kernel)) (by decide +kernel), gT_in (List.mem_of_getElem? (i := 1035) (by decide +kernel)) (by decide +kernel)⟩
theorem mi_X4_seed : MI yX4_seed cX4_seed 2 (some .int) 1 := ⟨gT_in (List.mem_of_getElem? (i := 1040) (by decide +kernel)) (by decide +kernel), gT_in (List.mem_of_getElem? (i := 58) (by decide +kernel)) (by decide +kernel), by decide +kernel, by decide +kernel, by decide +kernel, by decide⟩
theorem mv_X4_seed : MV yX4_seed := ⟨gT_in (List.mem_of_getElem? (i := 1038) (by decide +kernel)) (by decide +kernel), gT_in (List.mem_of_getElem? (i := 1039) (by decide +kernel)) (by decide +kernel)⟩
theorem mi_X4_feed : MI yX4_feed cX4_feed 4 (some .int) 2 := ⟨gT_in (List.mem_of_getElem? (i := 1044) (by decide +kernel)) (by decide +kernel), gT_in (List.mem_of_getElem? (i := 58) (by decide +kernel)) (by decide +kernel), by decide +kernel, by decide +kernel, by decide +kernel, by decide⟩
theorem mv_X4_feed : MV yX4_feed := ⟨gT_in (List.mem_of_getElem? (i := 1042) (by decide +kernel)) (by decide +kernel), gT_in (List.mem_of_getElem? (i := 1043) (by decide +kernel)) (by decide +kernel)⟩
theorem mi_X4_wipe : MI yX4_wipe cX4_wipe 2 (some .int) 0 := ⟨gT_in (List.mem_of_getElem? (i := 1048) (by decide +kernel)) (by decide +kernel), gT_in (List.mem_of_getElem? (i := 58) (by decide +kernel)) (by decide +kernel), by decide +kernel, by decide +kernel, by decide +kernel, by decide⟩
theorem mv_X4_wipe : MV yX4_wipe := ⟨gT_in (List.mem_of_getElem? (i := 1046) (by decide +kernel)) (by decide +kernel), gT_in (List.mem_of_getElem? (i := 1047) (by decide +kernel)) (by decide +kernel)⟩
theorem mi_X4_text : MI yX4_text cX4_text 2 (some .int) 0 := ⟨gT_in (List.mem_of_getElem? (i := 1052) (by decide +kernel)) (by decide +kernel), gT_in (List.mem_of_getElem? (i := 58) (by decide +kernel)) (by decide +kernel), by decide +kernel, by decide +kernel, by decide +kernel, by decide⟩
theorem mv_X4_text : MV yX4_text := ⟨gT_in (List.mem_of_getElem? (i := 1050) (by decide +kernel)) (by decide +kernel), gT_in (List.mem_of_getElem? (i := 1051) (by decide +kernel)) (by decide +kernel)⟩
theorem mi_X4_reads : MI yX4_reads cX4_reads 1 none 0 := ⟨gT_in (List.mem_of_getElem? (i := 1056) (by decide +kernel)) (by decide +kernel), gT_in (List.mem_of_getElem? (i := 58) (by decide +kernel)) (by decide +kernel), by decide +kernel, by decide +kernel, by decide +kernel, by decide⟩
theorem mv_X4_reads : MV yX4_reads := ⟨gT_in (List.mem_of_getElem? (i := 1055) (by decide +kernel)) (by decide +kernel), gT_in (List.mem_of_getElem? (i := 40) (by decide +kernel)) (by decide +kernel)⟩
theorem mi_X4_isByte : MI yX4_isByte cX4_isByte 4 (some .boolean) 3 := ⟨gT_in (List.mem_of_getElem? (i := 1060) (by decide +kernel)) (by decide +kernel), gT_in (List.mem_of_getElem? (i := 58) (by decide +kernel)) (by decide +kernel), by decide +kernel, by decide +kernel, by decide +kernel, by decide⟩
theorem mv_X4_isByte : MV yX4_isByte := ⟨gT_in (List.mem_of_getElem? (i := 1059) (by decide +kernel)) (by decide +kernel), gT_in (List.mem_of_getElem? (i := 41) (by decide +kernel)) (by decide +kernel)⟩
theorem mi_X4_wordHere : MI yX4_wordHere cX4_wordHere 2 (some .int) 0 := ⟨gT_in (List.mem_of_getElem? (i := 1064) (by decide +kernel)) (by decide +kernel), gT_in (List.mem_of_getElem? (i := 58) (by decide +kernel)) (by decide +kernel), by decide +kernel, by decide +kernel, by decide +kernel, by decide⟩
theorem mv_X4_wordHere : MV yX4_wordHere := ⟨gT_in (List.mem_of_getElem? (i := 1063) (by decide +kernel)) (by decide +kernel), gT_in (List.mem_of_getElem? (i := 42) (by decide +kernel)) (by decide +kernel)⟩
theorem mi_X4_isName : MI yX4_isName cX4_isName 5 (some .boolean) 2 := ⟨gT_in (List.mem_of_getElem? (i := 1068) (by decide +kernel)) (by decide +kernel), gT_in (List.mem_of_getElem? (i := 58) (by decide +kernel)) (by decide +kernel), by decide +kernel, by decide +kernel, by decide +kernel, by decide⟩
theorem mv_X4_isName : MV yX4_isName := ⟨gT_in (List.mem_of_getElem? (i := 1067) (by decide +kernel)) (by decide +kernel), gT_in (List.mem_of_getElem? (i := 43) (by decide +kernel)) (by decide +kernel)⟩
theorem mi_X4_item : MI yX4_item cX4_item 1 none 0 := ⟨gT_in (List.mem_of_getElem? (i := 1074) (by decide +kernel)) (by decide +kernel), gT_in (List.mem_of_getElem? (i := 58) (by decide +kernel)) (by decide +kernel), by decide +kernel, by decide +kernel, by decide +kernel, by decide⟩
theorem mv_X4_item : MV yX4_item := ⟨gT_in (List.mem_of_getElem? (i := 1073) (by decide +kernel)) (by decide +kernel), gT_in (List.mem_of_getElem? (i := 44) (by decide +kernel)) (by decide +kernel)⟩
theorem mi_X4_dishItem : MI yX4_dishItem cX4_dishItem 8 none 0 := ⟨gT_in (List.mem_of_getElem? (i := 1078) (by decide +kernel)) (by decide +kernel), gT_in (List.mem_of_getElem? (i := 58) (by decide +kernel)) (by decide +kernel), by decide +kernel, by decide +kernel, by decide +kernel, by decide⟩
theorem mv_X4_dishItem : MV yX4_dishItem := ⟨gT_in (List.mem_of_getElem? (i := 1077) (by decide +kernel)) (by decide +kernel), gT_in (List.mem_of_getElem? (i := 45) (by decide +kernel)) (by decide +kernel)⟩
theorem mi_X4_number : MI yX4_number cX4_number 4 (some .int) 2 := ⟨gT_in (List.mem_of_getElem? (i := 1082) (by decide +kernel)) (by decide +kernel), gT_in (List.mem_of_getElem? (i := 58) (by decide +kernel)) (by decide +kernel), by decide +kernel, by decide +kernel, by decide +kernel, by decide⟩
theorem mv_X4_number : MV yX4_number := ⟨gT_in (List.mem_of_getElem? (i := 1081) (by decide +kernel)) (by decide +kernel), gT_in (List.mem_of_getElem? (i := 46) (by decide +kernel)) (by decide +kernel)⟩
theorem mi_X4_perhaps : MI yX4_perhaps cX4_perhaps 5 (some .int) 4 := ⟨gT_in (List.mem_of_getElem? (i := 1086) (by decide +kernel)) (by decide +kernel), gT_in (List.mem_of_getElem? (i := 58) (by decide +kernel)) (by decide +kernel), by decide +kernel, by decide +kernel, by decide +kernel, by decide⟩
theorem mv_X4_perhaps : MV yX4_perhaps := ⟨gT_in (List.mem_of_getElem? (i := 1085) (by decide +kernel)) (by decide +kernel), gT_in (List.mem_of_getElem? (i := 47) (by decide +kernel)) (by decide +kernel)⟩
theorem mi_X4_takes : MI yX4_takes cX4_takes 2 (some .boolean) 1 := ⟨gT_in (List.mem_of_getElem? (i := 1090) (by decide +kernel)) (by decide +kernel), gT_in (List.mem_of_getElem? (i := 58) (by decide +kernel)) (by decide +kernel), by decide +kernel, by decide +kernel, by decide +kernel, by decide⟩
theorem mv_X4_takes : MV yX4_takes := ⟨gT_in (List.mem_of_getElem? (i := 1089) (by decide +kernel)) (by decide +kernel), gT_in (List.mem_of_getElem? (i := 48) (by decide +kernel)) (by decide +kernel)⟩
theorem mi_X4_guestItem : MI yX4_guestItem cX4_guestItem 4 none 0 := ⟨gT_in (List.mem_of_getElem? (i := 1094) (by decide +kernel)) (by decide +kernel), gT_in (List.mem_of_getElem? (i := 58) (by decide +kernel)) (by decide +kernel), by decide +kernel, by decide +kernel, by decide +kernel, by decide⟩
theorem mv_X4_guestItem : MV yX4_guestItem := ⟨gT_in (List.mem_of_getElem? (i := 1093) (by decide +kernel)) (by decide +kernel), gT_in (List.mem_of_getElem? (i := 49) (by decide +kernel)) (by decide +kernel)⟩
theorem mi_X4_mealItem : MI yX4_mealItem cX4_mealItem 4 none 0 := ⟨gT_in (List.mem_of_getElem? (i := 1098) (by decide +kernel)) (by decide +kernel), gT_in (List.mem_of_getElem? (i := 58) (by decide +kernel)) (by decide +kernel), by decide +kernel, by decide +kernel, by decide +kernel, by decide⟩
theorem mv_X4_mealItem : MV yX4_mealItem := ⟨gT_in (List.mem_of_getElem? (i := 1097) (by decide +kernel)) (by decide +kernel), gT_in (List.mem_of_getElem? (i := 50) (by decide +kernel)) (by decide +kernel)⟩
theorem mi_X4_hold : MI yX4_hold cX4_hold 3 (some .int) 2 := ⟨gT_in (List.mem_of_getElem? (i := 1102) (by decide +kernel)) (by decide +kernel), gT_in (List.mem_of_getElem? (i := 58) (by decide +kernel)) (by decide +kernel), by decide +kernel, by decide +kernel, by decide +kernel, by decide⟩
theorem mv_X4_hold : MV yX4_hold := ⟨gT_in (List.mem_of_getElem? (i := 1100) (by decide +kernel)) (by decide +kernel), gT_in (List.mem_of_getElem? (i := 1101) (by decide +kernel)) (by decide +kernel)⟩
theorem mi_X4_as : MI yX4_as cX4_as 4 (some .int) 2 := ⟨gT_in (List.mem_of_getElem? (i := 1106) (by decide +kernel)) (by decide +kernel), gT_in (List.mem_of_getElem? (i := 58) (by decide +kernel)) (by decide +kernel), by decide +kernel, by decide +kernel, by decide +kernel, by decide⟩
theorem mv_X4_as : MV yX4_as := ⟨gT_in (List.mem_of_getElem? (i := 1104) (by decide +kernel)) (by decide +kernel), gT_in (List.mem_of_getElem? (i := 1105) (by decide +kernel)) (by decide +kernel)⟩
theorem mi_X4_isUnder : MI yX4_isUnder cX4_isUnder 3 (some .boolean) 2 := ⟨gT_in (List.mem_of_getElem? (i := 1109) (by decide +kernel)) (by decide +kernel), gT_in (List.mem_of_getElem? (i := 58) (by decide +kernel)) (by decide +kernel), by decide +kernel, by decide +kernel, by decide +kernel, by decide⟩
theorem ms_X4_isUnder : Cond.static yX4_isUnder ∈ gT := gT_in (List.mem_of_getElem? (i := 1108) (by decide +kernel)) (by decide +kernel)
theorem mi_X4_sheet : MI yX4_sheet cX4_sheet 5 (some .int) 3 := ⟨gT_in (List.mem_of_getElem? (i := 1114) (by decide +kernel)) (by decide +kernel), gT_in (List.mem_of_getElem? (i := 58) (by decide +kernel)) (by decide +kernel), by decide +kernel, by decide +kernel, by decide +kernel, by decide⟩
theorem mv_X4_sheet : MV yX4_sheet := ⟨gT_in (List.mem_of_getElem? (i := 1112) (by decide +kernel)) (by decide +kernel), gT_in (List.mem_of_getElem? (i := 1113) (by decide +kernel)) (by decide +kernel)⟩
theorem mi_X4_write : MI yX4_write cX4_write 5 (some .int) 3 := ⟨gT_in (List.mem_of_getElem? (i := 1119) (by decide +kernel)) (by decide +kernel), gT_in (List.mem_of_getElem? (i := 58) (by decide +kernel)) (by decide +kernel), by decide +kernel, by decide +kernel, by decide +kernel, by decide⟩
theorem mv_X4_write : MV yX4_write := ⟨gT_in (List.mem_of_getElem? (i := 1117) (by decide +kernel)) (by decide +kernel), gT_in (List.mem_of_getElem? (i := 1118) (by decide +kernel)) (by decide +kernel)⟩
theorem mi_X4_copy : MI yX4_copy cX4_copy 9 (some .int) 5 := ⟨gT_in (List.mem_of_getElem? (i := 1123) (by decide +kernel)) (by decide +kernel), gT_in (List.mem_of_getElem? (i := 58) (by decide +kernel)) (by decide +kernel), by decide +kernel, by decide +kernel, by decide +kernel, by decide⟩
theorem mv_X4_copy : MV yX4_copy := ⟨gT_in (List.mem_of_getElem? (i := 1121) (by decide +kernel)) (by decide +kernel), gT_in (List.mem_of_getElem? (i := 1122) (by decide +kernel)) (by decide +kernel)⟩
theorem mi_X4_notCopied : MI yX4_notCopied cX4_notCopied 7 (some .int) 5 := ⟨gT_in (List.mem_of_getElem? (i := 1127) (by decide +kernel)) (by decide +kernel), gT_in (List.mem_of_getElem? (i := 58) (by decide +kernel)) (by decide +kernel), by decide +kernel, by decide +kernel, by decide +kernel, by decide⟩
theorem mv_X4_notCopied : MV yX4_notCopied := ⟨gT_in (List.mem_of_getElem? (i := 1126) (by decide +kernel)) (by decide +kernel), gT_in (List.mem_of_getElem? (i := 51) (by decide +kernel)) (by decide +kernel)⟩
theorem mi_X4_load : MI yX4_load cX4_load 4 (some .int) 1 := ⟨gT_in (List.mem_of_getElem? (i := 1131) (by decide +kernel)) (by decide +kernel), gT_in (List.mem_of_getElem? (i := 58) (by decide +kernel)) (by decide +kernel), by decide +kernel, by decide +kernel, by decide +kernel, by decide⟩
theorem mv_X4_load : MV yX4_load := ⟨gT_in (List.mem_of_getElem? (i := 1129) (by decide +kernel)) (by decide +kernel), gT_in (List.mem_of_getElem? (i := 1130) (by decide +kernel)) (by decide +kernel)⟩
theorem mi_X4_judge : MI yX4_judge cX4_judge 4 (some .int) 1 := ⟨gT_in (List.mem_of_getElem? (i := 1135) (by decide +kernel)) (by decide +kernel), gT_in (List.mem_of_getElem? (i := 58) (by decide +kernel)) (by decide +kernel), by decide +kernel, by decide +kernel, by decide +kernel, by decide⟩
theorem mv_X4_judge : MV yX4_judge := ⟨gT_in (List.mem_of_getElem? (i := 1133) (by decide +kernel)) (by decide +kernel), gT_in (List.mem_of_getElem? (i := 1134) (by decide +kernel)) (by decide +kernel)⟩
theorem mi_X4_image : MI yX4_image cX4_image 1 (some .int) 0 := ⟨gT_in (List.mem_of_getElem? (i := 1139) (by decide +kernel)) (by decide +kernel), gT_in (List.mem_of_getElem? (i := 58) (by decide +kernel)) (by decide +kernel), by decide +kernel, by decide +kernel, by decide +kernel, by decide⟩
theorem mv_X4_image : MV yX4_image := ⟨gT_in (List.mem_of_getElem? (i := 1137) (by decide +kernel)) (by decide +kernel), gT_in (List.mem_of_getElem? (i := 1138) (by decide +kernel)) (by decide +kernel)⟩
theorem mi_X4_undo : MI yX4_undo cX4_undo 1 (some .int) 0 := ⟨gT_in (List.mem_of_getElem? (i := 1143) (by decide +kernel)) (by decide +kernel), gT_in (List.mem_of_getElem? (i := 58) (by decide +kernel)) (by decide +kernel), by decide +kernel, by decide +kernel, by decide +kernel, by decide⟩
theorem mv_X4_undo : MV yX4_undo := ⟨gT_in (List.mem_of_getElem? (i := 1141) (by decide +kernel)) (by decide +kernel), gT_in (List.mem_of_getElem? (i := 1142) (by decide +kernel)) (by decide +kernel)⟩
theorem mi_X4_tear : MI yX4_tear cX4_tear 2 (some .int) 0 := ⟨gT_in (List.mem_of_getElem? (i := 1147) (by decide +kernel)) (by decide +kernel), gT_in (List.mem_of_getElem? (i := 58) (by decide +kernel)) (by decide +kernel), by decide +kernel, by decide +kernel, by decide +kernel, by decide⟩
theorem mv_X4_tear : MV yX4_tear := ⟨gT_in (List.mem_of_getElem? (i := 1145) (by decide +kernel)) (by decide +kernel), gT_in (List.mem_of_getElem? (i := 1146) (by decide +kernel)) (by decide +kernel)⟩
theorem mi_X4_count : MI yX4_count cX4_count 2 (some .int) 1 := ⟨gT_in (List.mem_of_getElem? (i := 1151) (by decide +kernel)) (by decide +kernel), gT_in (List.mem_of_getElem? (i := 58) (by decide +kernel)) (by decide +kernel), by decide +kernel, by decide +kernel, by decide +kernel, by decide⟩
theorem mv_X4_count : MV yX4_count := ⟨gT_in (List.mem_of_getElem? (i := 1149) (by decide +kernel)) (by decide +kernel), gT_in (List.mem_of_getElem? (i := 1150) (by decide +kernel)) (by decide +kernel)⟩
theorem mi_X4_manyHeld : MI yX4_manyHeld cX4_manyHeld 3 (some .int) 0 := ⟨gT_in (List.mem_of_getElem? (i := 1155) (by decide +kernel)) (by decide +kernel), gT_in (List.mem_of_getElem? (i := 58) (by decide +kernel)) (by decide +kernel), by decide +kernel, by decide +kernel, by decide +kernel, by decide⟩
theorem mv_X4_manyHeld : MV yX4_manyHeld := ⟨gT_in (List.mem_of_getElem? (i := 1154) (by decide +kernel)) (by decide +kernel), gT_in (List.mem_of_getElem? (i := 52) (by decide +kernel)) (by decide +kernel)⟩
theorem mi_X4_status : MI yX4_status cX4_status 4 (some .int) 1 := ⟨gT_in (List.mem_of_getElem? (i := 1159) (by decide +kernel)) (by decide +kernel), gT_in (List.mem_of_getElem? (i := 58) (by decide +kernel)) (by decide +kernel), by decide +kernel, by decide +kernel, by decide +kernel, by decide⟩
theorem mv_X4_status : MV yX4_status := ⟨gT_in (List.mem_of_getElem? (i := 1157) (by decide +kernel)) (by decide +kernel), gT_in (List.mem_of_getElem? (i := 1158) (by decide +kernel)) (by decide +kernel)⟩
theorem mm_I : Cond.initialized "java/lang/Math" ∈ gT := gT_in (List.mem_of_getElem? (i := 59) (by decide +kernel)) (by decide +kernel)
theorem ml_L_9 : Cond.methodLink RL 9 yX3_init ∈ gT := gT_in (List.mem_of_getElem? (i := 68) (by decide +kernel)) (by decide +kernel)
theorem ml_X3_11 : Cond.methodLink RX3 11 yX0_init ∈ gT := gT_in (List.mem_of_getElem? (i := 76) (by decide +kernel)) (by decide +kernel)
theorem ml_X3_24 : Cond.methodLink RX3 24 yX2_init ∈ gT := gT_in (List.mem_of_getElem? (i := 116) (by decide +kernel)) (by decide +kernel)
theorem ml_X3_35 : Cond.methodLink RX3 35 yX1_init ∈ gT := gT_in (List.mem_of_getElem? (i := 144) (by decide +kernel)) (by decide +kernel)
theorem ml_L_13 : Cond.methodLink RL 13 yX3_list ∈ gT := gT_in (List.mem_of_getElem? (i := 183) (by decide +kernel)) (by decide +kernel)
theorem ml_X3_44 : Cond.methodLink RX3 44 yX3_isPlace ∈ gT := gT_in (List.mem_of_getElem? (i := 187) (by decide +kernel)) (by decide +kernel)
theorem ml_X3_48 : Cond.methodLink RX3 48 yX3_within ∈ gT := gT_in (List.mem_of_getElem? (i := 190) (by decide +kernel)) (by decide +kernel)
theorem ml_X3_53 : Cond.methodLink RX3 53 yX3_found ∈ gT := gT_in (List.mem_of_getElem? (i := 194) (by decide +kernel)) (by decide +kernel)
theorem ml_X3_60 : Cond.methodLink RX3 60 yX0_planMeal ∈ gT := gT_in (List.mem_of_getElem? (i := 198) (by decide +kernel)) (by decide +kernel)
theorem ml_L_18 : Cond.methodLink RL 18 yX3_listed ∈ gT := gT_in (List.mem_of_getElem? (i := 202) (by decide +kernel)) (by decide +kernel)
theorem ml_L_23 : Cond.methodLink RL 23 yX3_dish ∈ gT := gT_in (List.mem_of_getElem? (i := 206) (by decide +kernel)) (by decide +kernel)
theorem ml_X3_64 : Cond.methodLink RX3 64 yX3_isKind ∈ gT := gT_in (List.mem_of_getElem? (i := 210) (by decide +kernel)) (by decide +kernel)
theorem ml_X3_67 : Cond.methodLink RX3 67 yX3_isTown ∈ gT := gT_in (List.mem_of_getElem? (i := 213) (by decide +kernel)) (by decide +kernel)
theorem ml_X3_75 : Cond.methodLink RX3 75 yX0_addDish ∈ gT := gT_in (List.mem_of_getElem? (i := 217) (by decide +kernel)) (by decide +kernel)
theorem ml_X0_47 : Cond.methodLink RX0 47 yX0_putDishFact ∈ gT := gT_in (List.mem_of_getElem? (i := 221) (by decide +kernel)) (by decide +kernel)
theorem ml_L_27 : Cond.methodLink RL 27 yX3_guest ∈ gT := gT_in (List.mem_of_getElem? (i := 225) (by decide +kernel)) (by decide +kernel)
theorem ml_X3_79 : Cond.methodLink RX3 79 yX3_isBent ∈ gT := gT_in (List.mem_of_getElem? (i := 229) (by decide +kernel)) (by decide +kernel)
theorem ml_X3_85 : Cond.methodLink RX3 85 yX0_addGuest ∈ gT := gT_in (List.mem_of_getElem? (i := 232) (by decide +kernel)) (by decide +kernel)
theorem ml_X0_51 : Cond.methodLink RX0 51 yX0_putGuestFact ∈ gT := gT_in (List.mem_of_getElem? (i := 236) (by decide +kernel)) (by decide +kernel)
theorem ml_L_31 : Cond.methodLink RL 31 yX3_of ∈ gT := gT_in (List.mem_of_getElem? (i := 240) (by decide +kernel)) (by decide +kernel)
theorem ml_X3_88 : Cond.methodLink RX3 88 yX0_isDish ∈ gT := gT_in (List.mem_of_getElem? (i := 244) (by decide +kernel)) (by decide +kernel)
theorem ml_X3_91 : Cond.methodLink RX3 91 yX0_dishFact ∈ gT := gT_in (List.mem_of_getElem? (i := 248) (by decide +kernel)) (by decide +kernel)
theorem ml_L_36 : Cond.methodLink RL 36 yX3_change ∈ gT := gT_in (List.mem_of_getElem? (i := 252) (by decide +kernel)) (by decide +kernel)
theorem ml_X3_98 : Cond.methodLink RX3 98 yX0_putDishFact ∈ gT := gT_in (List.mem_of_getElem? (i := 258) (by decide +kernel)) (by decide +kernel)
theorem ml_L_40 : Cond.methodLink RL 40 yX3_ofGuest ∈ gT := gT_in (List.mem_of_getElem? (i := 259) (by decide +kernel)) (by decide +kernel)
theorem ml_X3_101 : Cond.methodLink RX3 101 yX0_isGuest ∈ gT := gT_in (List.mem_of_getElem? (i := 263) (by decide +kernel)) (by decide +kernel)
theorem ml_X3_104 : Cond.methodLink RX3 104 yX3_isGuestFact ∈ gT := gT_in (List.mem_of_getElem? (i := 267) (by decide +kernel)) (by decide +kernel)
theorem ml_X3_107 : Cond.methodLink RX3 107 yX0_guestFact ∈ gT := gT_in (List.mem_of_getElem? (i := 270) (by decide +kernel)) (by decide +kernel)
theorem ml_L_44 : Cond.methodLink RL 44 yX3_seat ∈ gT := gT_in (List.mem_of_getElem? (i := 274) (by decide +kernel)) (by decide +kernel)
theorem ml_X3_113 : Cond.methodLink RX3 113 yX0_putGuestFact ∈ gT := gT_in (List.mem_of_getElem? (i := 280) (by decide +kernel)) (by decide +kernel)
theorem ml_L_48 : Cond.methodLink RL 48 yX3_would ∈ gT := gT_in (List.mem_of_getElem? (i := 281) (by decide +kernel)) (by decide +kernel)
theorem ml_X3_116 : Cond.methodLink RX3 116 yX0_takesLeft ∈ gT := gT_in (List.mem_of_getElem? (i := 285) (by decide +kernel)) (by decide +kernel)
theorem ml_X0_57 : Cond.methodLink RX0 57 yX0_guestFact ∈ gT := gT_in (List.mem_of_getElem? (i := 289) (by decide +kernel)) (by decide +kernel)
theorem ml_X0_43 : Cond.methodLink RX0 43 yX0_dishFact ∈ gT := gT_in (List.mem_of_getElem? (i := 290) (by decide +kernel)) (by decide +kernel)
theorem ml_X0_60 : Cond.methodLink RX0 60 yX0_anotherIsFor ∈ gT := gT_in (List.mem_of_getElem? (i := 291) (by decide +kernel)) (by decide +kernel)
theorem ml_X3_120 : Cond.methodLink RX3 120 yX0_costOf ∈ gT := gT_in (List.mem_of_getElem? (i := 295) (by decide +kernel)) (by decide +kernel)
theorem ml_X0_64 : Cond.methodLink RX0 64 Lib.Math.max.name ∈ gT := gT_in (List.mem_of_getElem? (i := 299) (by decide +kernel)) (by decide +kernel)
theorem ml_X3_124 : Cond.methodLink RX3 124 yX0_bendOf ∈ gT := gT_in (List.mem_of_getElem? (i := 302) (by decide +kernel)) (by decide +kernel)
theorem ml_X3_128 : Cond.methodLink RX3 128 yX0_townOf ∈ gT := gT_in (List.mem_of_getElem? (i := 305) (by decide +kernel)) (by decide +kernel)
theorem ml_L_52 : Cond.methodLink RL 52 yX3_eat ∈ gT := gT_in (List.mem_of_getElem? (i := 309) (by decide +kernel)) (by decide +kernel)
theorem ml_X3_131 : Cond.methodLink RX3 131 yX0_isOff ∈ gT := gT_in (List.mem_of_getElem? (i := 313) (by decide +kernel)) (by decide +kernel)
theorem ml_X3_135 : Cond.methodLink RX3 135 yX0_haveMeal ∈ gT := gT_in (List.mem_of_getElem? (i := 318) (by decide +kernel)) (by decide +kernel)
theorem ml_X0_72 : Cond.methodLink RX0 72 yX0_takesLeft ∈ gT := gT_in (List.mem_of_getElem? (i := 322) (by decide +kernel)) (by decide +kernel)
theorem ml_X0_75 : Cond.methodLink RX0 75 yX0_townOf ∈ gT := gT_in (List.mem_of_getElem? (i := 323) (by decide +kernel)) (by decide +kernel)
theorem ml_X0_79 : Cond.methodLink RX0 79 yX0_costOf ∈ gT := gT_in (List.mem_of_getElem? (i := 324) (by decide +kernel)) (by decide +kernel)
theorem ml_X0_69 : Cond.methodLink RX0 69 Lib.Math.min.name ∈ gT := gT_in (List.mem_of_getElem? (i := 326) (by decide +kernel)) (by decide +kernel)
theorem ml_X0_84 : Cond.methodLink RX0 84 yX0_bendOf ∈ gT := gT_in (List.mem_of_getElem? (i := 329) (by decide +kernel)) (by decide +kernel)
theorem ml_X0_87 : Cond.methodLink RX0 87 yX0_bendGuest ∈ gT := gT_in (List.mem_of_getElem? (i := 330) (by decide +kernel)) (by decide +kernel)
theorem ml_X0_91 : Cond.methodLink RX0 91 yX0_serveOnce ∈ gT := gT_in (List.mem_of_getElem? (i := 334) (by decide +kernel)) (by decide +kernel)
theorem ml_L_56 : Cond.methodLink RL 56 yX3_go ∈ gT := gT_in (List.mem_of_getElem? (i := 338) (by decide +kernel)) (by decide +kernel)
theorem ml_X3_143 : Cond.methodLink RX3 143 yX0_passDays ∈ gT := gT_in (List.mem_of_getElem? (i := 343) (by decide +kernel)) (by decide +kernel)
theorem ml_X0_115 : Cond.methodLink RX0 115 yX0_passDay ∈ gT := gT_in (List.mem_of_getElem? (i := 347) (by decide +kernel)) (by decide +kernel)
theorem ml_X0_95 : Cond.methodLink RX0 95 yX0_guestOfMeal ∈ gT := gT_in (List.mem_of_getElem? (i := 351) (by decide +kernel)) (by decide +kernel)
theorem ml_X0_99 : Cond.methodLink RX0 99 yX0_dishOfMeal ∈ gT := gT_in (List.mem_of_getElem? (i := 354) (by decide +kernel)) (by decide +kernel)
theorem ml_X0_102 : Cond.methodLink RX0 102 yX0_isGuest ∈ gT := gT_in (List.mem_of_getElem? (i := 357) (by decide +kernel)) (by decide +kernel)
theorem ml_X0_106 : Cond.methodLink RX0 106 yX0_isDish ∈ gT := gT_in (List.mem_of_getElem? (i := 358) (by decide +kernel)) (by decide +kernel)
theorem ml_X0_109 : Cond.methodLink RX0 109 yX0_isOff ∈ gT := gT_in (List.mem_of_getElem? (i := 359) (by decide +kernel)) (by decide +kernel)
theorem ml_X0_112 : Cond.methodLink RX0 112 yX0_haveMeal ∈ gT := gT_in (List.mem_of_getElem? (i := 360) (by decide +kernel)) (by decide +kernel)
theorem ml_X3_147 : Cond.methodLink RX3 147 yX0_billSum ∈ gT := gT_in (List.mem_of_getElem? (i := 361) (by decide +kernel)) (by decide +kernel)
theorem ml_L_60 : Cond.methodLink RL 60 yX3_now ∈ gT := gT_in (List.mem_of_getElem? (i := 365) (by decide +kernel)) (by decide +kernel)
theorem ml_X3_151 : Cond.methodLink RX3 151 yX0_townsAimedAt ∈ gT := gT_in (List.mem_of_getElem? (i := 369) (by decide +kernel)) (by decide +kernel)
theorem ml_X3_154 : Cond.methodLink RX3 154 yX0_townsBeenIn ∈ gT := gT_in (List.mem_of_getElem? (i := 373) (by decide +kernel)) (by decide +kernel)
theorem ml_X3_157 : Cond.methodLink RX3 157 yX0_servedSum ∈ gT := gT_in (List.mem_of_getElem? (i := 377) (by decide +kernel)) (by decide +kernel)
theorem ml_X3_160 : Cond.methodLink RX3 160 yX0_partedPairs ∈ gT := gT_in (List.mem_of_getElem? (i := 381) (by decide +kernel)) (by decide +kernel)
theorem ml_X3_163 : Cond.methodLink RX3 163 yX0_dishesOnCard ∈ gT := gT_in (List.mem_of_getElem? (i := 385) (by decide +kernel)) (by decide +kernel)
theorem ml_X3_166 : Cond.methodLink RX3 166 yX0_deepestInDebt ∈ gT := gT_in (List.mem_of_getElem? (i := 389) (by decide +kernel)) (by decide +kernel)
theorem ml_L_64 : Cond.methodLink RL 64 yX3_ahead ∈ gT := gT_in (List.mem_of_getElem? (i := 393) (by decide +kernel)) (by decide +kernel)
theorem ml_X3_169 : Cond.methodLink RX3 169 yX0_become ∈ gT := gT_in (List.mem_of_getElem? (i := 397) (by decide +kernel)) (by decide +kernel)
theorem ml_X0_28 : Cond.methodLink RX0 28 arraycopyName ∈ gT := gT_in (List.mem_of_getElem? (i := 401) (by decide +kernel)) (by decide +kernel)
theorem ml_L_68 : Cond.methodLink RL 68 yX3_served ∈ gT := gT_in (List.mem_of_getElem? (i := 404) (by decide +kernel)) (by decide +kernel)
theorem ml_L_72 : Cond.methodLink RL 72 yX3_when ∈ gT := gT_in (List.mem_of_getElem? (i := 408) (by decide +kernel)) (by decide +kernel)
theorem ml_X3_173 : Cond.methodLink RX3 173 yX0_passDay ∈ gT := gT_in (List.mem_of_getElem? (i := 412) (by decide +kernel)) (by decide +kernel)
theorem ml_L_76 : Cond.methodLink RL 76 yX3_owes ∈ gT := gT_in (List.mem_of_getElem? (i := 414) (by decide +kernel)) (by decide +kernel)
theorem ml_L_80 : Cond.methodLink RL 80 yX3_part ∈ gT := gT_in (List.mem_of_getElem? (i := 418) (by decide +kernel)) (by decide +kernel)
theorem ml_L_84 : Cond.methodLink RL 84 yX3_dishFor ∈ gT := gT_in (List.mem_of_getElem? (i := 422) (by decide +kernel)) (by decide +kernel)
theorem ml_X3_177 : Cond.methodLink RX3 177 yX0_guestOfMeal ∈ gT := gT_in (List.mem_of_getElem? (i := 426) (by decide +kernel)) (by decide +kernel)
theorem ml_L_88 : Cond.methodLink RL 88 yX3_kindFor ∈ gT := gT_in (List.mem_of_getElem? (i := 428) (by decide +kernel)) (by decide +kernel)
theorem ml_L_92 : Cond.methodLink RL 92 yX3_bentFor ∈ gT := gT_in (List.mem_of_getElem? (i := 432) (by decide +kernel)) (by decide +kernel)
theorem ml_L_96 : Cond.methodLink RL 96 yX3_courses ∈ gT := gT_in (List.mem_of_getElem? (i := 436) (by decide +kernel)) (by decide +kernel)
theorem ml_X3_181 : Cond.methodLink RX3 181 yX3_leadsTo ∈ gT := gT_in (List.mem_of_getElem? (i := 440) (by decide +kernel)) (by decide +kernel)
theorem ml_X3_273 : Cond.methodLink RX3 273 yX3_leadsToBy ∈ gT := gT_in (List.mem_of_getElem? (i := 444) (by decide +kernel)) (by decide +kernel)
theorem ml_X3_276 : Cond.methodLink RX3 276 yX0_bendGuest ∈ gT := gT_in (List.mem_of_getElem? (i := 448) (by decide +kernel)) (by decide +kernel)
theorem ml_X3_279 : Cond.methodLink RX3 279 yX0_serveOnce ∈ gT := gT_in (List.mem_of_getElem? (i := 449) (by decide +kernel)) (by decide +kernel)
theorem ml_L_100 : Cond.methodLink RL 100 yX3_strike ∈ gT := gT_in (List.mem_of_getElem? (i := 450) (by decide +kernel)) (by decide +kernel)
theorem ml_X3_184 : Cond.methodLink RX3 184 yJ6_bitCount_0f7a4 ∈ gT := gT_in (List.mem_of_getElem? (i := 454) (by decide +kernel)) (by decide +kernel)
theorem ml_X3_189 : Cond.methodLink RX3 189 yX3_keepsAway ∈ gT := gT_in (List.mem_of_getElem? (i := 460) (by decide +kernel)) (by decide +kernel)
theorem ml_L_104 : Cond.methodLink RL 104 yX3_fits ∈ gT := gT_in (List.mem_of_getElem? (i := 464) (by decide +kernel)) (by decide +kernel)
theorem ml_X3_193 : Cond.methodLink RX3 193 yX3_sheetTrouble ∈ gT := gT_in (List.mem_of_getElem? (i := 468) (by decide +kernel)) (by decide +kernel)
theorem ml_X3_235 : Cond.methodLink RX3 235 yX3_isSheet ∈ gT := gT_in (List.mem_of_getElem? (i := 472) (by decide +kernel)) (by decide +kernel)
theorem ml_X3_246 : Cond.methodLink RX3 246 yX1_isMissing ∈ gT := gT_in (List.mem_of_getElem? (i := 475) (by decide +kernel)) (by decide +kernel)
theorem ml_X3_196 : Cond.methodLink RX3 196 yX3_goesAsTold ∈ gT := gT_in (List.mem_of_getElem? (i := 480) (by decide +kernel)) (by decide +kernel)
theorem ml_L_108 : Cond.methodLink RL 108 yX3_kinds ∈ gT := gT_in (List.mem_of_getElem? (i := 484) (by decide +kernel)) (by decide +kernel)
theorem ml_L_112 : Cond.methodLink RL 112 yX3_coach ∈ gT := gT_in (List.mem_of_getElem? (i := 488) (by decide +kernel)) (by decide +kernel)
theorem ml_X3_200 : Cond.methodLink RX3 200 yX0_drawNumber ∈ gT := gT_in (List.mem_of_getElem? (i := 492) (by decide +kernel)) (by decide +kernel)
theorem ml_L_116 : Cond.methodLink RL 116 yX3_odds ∈ gT := gT_in (List.mem_of_getElem? (i := 497) (by decide +kernel)) (by decide +kernel)
theorem ml_X3_203 : Cond.methodLink RX3 203 yX3_sharedWithAllBents ∈ gT := gT_in (List.mem_of_getElem? (i := 501) (by decide +kernel)) (by decide +kernel)
theorem ml_X3_206 : Cond.methodLink RX3 206 yX3_power ∈ gT := gT_in (List.mem_of_getElem? (i := 504) (by decide +kernel)) (by decide +kernel)
theorem ml_L_121 : Cond.methodLink RL 121 yX3_seed ∈ gT := gT_in (List.mem_of_getElem? (i := 507) (by decide +kernel)) (by decide +kernel)
theorem ml_L_125 : Cond.methodLink RL 125 yX3_feed ∈ gT := gT_in (List.mem_of_getElem? (i := 511) (by decide +kernel)) (by decide +kernel)
theorem ml_X3_216 : Cond.methodLink RX3 216 yX2_addByte ∈ gT := gT_in (List.mem_of_getElem? (i := 515) (by decide +kernel)) (by decide +kernel)
theorem ml_L_129 : Cond.methodLink RL 129 yX3_wipe ∈ gT := gT_in (List.mem_of_getElem? (i := 519) (by decide +kernel)) (by decide +kernel)
theorem ml_L_134 : Cond.methodLink RL 134 yX3_text ∈ gT := gT_in (List.mem_of_getElem? (i := 523) (by decide +kernel)) (by decide +kernel)
theorem ml_X3_220 : Cond.methodLink RX3 220 yX2_readText ∈ gT := gT_in (List.mem_of_getElem? (i := 527) (by decide +kernel)) (by decide +kernel)
theorem ml_X2_20 : Cond.methodLink RX2 20 yX2_nextToken ∈ gT := gT_in (List.mem_of_getElem? (i := 531) (by decide +kernel)) (by decide +kernel)
theorem ml_X2_121 : Cond.methodLink RX2 121 yX2_tokenBegunBy ∈ gT := gT_in (List.mem_of_getElem? (i := 535) (by decide +kernel)) (by decide +kernel)
theorem ml_X2_23 : Cond.methodLink RX2 23 yX2_readItem ∈ gT := gT_in (List.mem_of_getElem? (i := 538) (by decide +kernel)) (by decide +kernel)
theorem ml_X2_35 : Cond.methodLink RX2 35 yX2_isWord ∈ gT := gT_in (List.mem_of_getElem? (i := 543) (by decide +kernel)) (by decide +kernel)
theorem ml_X2_98 : Cond.methodLink RX2 98 yJ0_length_8abf5 ∈ gT := gT_in (List.mem_of_getElem? (i := 547) (by decide +kernel)) (by decide +kernel)
theorem ml_J0_335 : Cond.methodLink RJ0 335 yJ0_coder_7d493 ∈ gT := gT_in (List.mem_of_getElem? (i := 551) (by decide +kernel)) (by decide +kernel)
theorem ml_X2_103 : Cond.methodLink RX2 103 yJ0_charAt_5068e ∈ gT := gT_in (List.mem_of_getElem? (i := 557) (by decide +kernel)) (by decide +kernel)
theorem ml_J0_492 : Cond.methodLink RJ0 492 yJ0_isLatin1_aae02 ∈ gT := gT_in (List.mem_of_getElem? (i := 561) (by decide +kernel)) (by decide +kernel)
theorem ml_J0_495 : Cond.methodLink RJ0 495 yJ1_charAt_3b067 ∈ gT := gT_in (List.mem_of_getElem? (i := 565) (by decide +kernel)) (by decide +kernel)
theorem ml_J1_9 : Cond.methodLink RJ1 9 yJ0_checkIndex_df160 ∈ gT := gT_in (List.mem_of_getElem? (i := 568) (by decide +kernel)) (by decide +kernel)
theorem ml_J0_1059 : Cond.methodLink RJ0 1059 yJ3_checkIndex_8e157 ∈ gT := gT_in (List.mem_of_getElem? (i := 573) (by decide +kernel)) (by decide +kernel)
theorem ml_J0_498 : Cond.methodLink RJ0 498 yJ2_charAt_3b067 ∈ gT := gT_in (List.mem_of_getElem? (i := 576) (by decide +kernel)) (by decide +kernel)
theorem ml_J2_67 : Cond.methodLink RJ2 67 yJ2_checkIndex_2214a ∈ gT := gT_in (List.mem_of_getElem? (i := 579) (by decide +kernel)) (by decide +kernel)
theorem ml_J2_48 : Cond.methodLink RJ2 48 yJ2_length_9d52b ∈ gT := gT_in (List.mem_of_getElem? (i := 582) (by decide +kernel)) (by decide +kernel)
theorem ml_J2_414 : Cond.methodLink RJ2 414 yJ0_checkIndex_df160 ∈ gT := gT_in (List.mem_of_getElem? (i := 585) (by decide +kernel)) (by decide +kernel)
theorem ml_J2_71 : Cond.methodLink RJ2 71 yJ2_getChar_3b067 ∈ gT := gT_in (List.mem_of_getElem? (i := 586) (by decide +kernel)) (by decide +kernel)
theorem ml_X2_39 : Cond.methodLink RX2 39 yX2_readGuest ∈ gT := gT_in (List.mem_of_getElem? (i := 595) (by decide +kernel)) (by decide +kernel)
theorem ml_X2_60 : Cond.methodLink RX2 60 yX2_takeNumber ∈ gT := gT_in (List.mem_of_getElem? (i := 599) (by decide +kernel)) (by decide +kernel)
theorem ml_X2_66 : Cond.methodLink RX2 66 yX2_takeWord ∈ gT := gT_in (List.mem_of_getElem? (i := 604) (by decide +kernel)) (by decide +kernel)
theorem ml_X2_86 : Cond.methodLink RX2 86 yX0_addGuest ∈ gT := gT_in (List.mem_of_getElem? (i := 608) (by decide +kernel)) (by decide +kernel)
theorem ml_X2_89 : Cond.methodLink RX2 89 yX0_putGuestFact ∈ gT := gT_in (List.mem_of_getElem? (i := 609) (by decide +kernel)) (by decide +kernel)
theorem ml_X2_44 : Cond.methodLink RX2 44 yX2_readMeal ∈ gT := gT_in (List.mem_of_getElem? (i := 611) (by decide +kernel)) (by decide +kernel)
theorem ml_X2_92 : Cond.methodLink RX2 92 yX0_planMeal ∈ gT := gT_in (List.mem_of_getElem? (i := 615) (by decide +kernel)) (by decide +kernel)
theorem ml_X2_49 : Cond.methodLink RX2 49 yX2_wordOf ∈ gT := gT_in (List.mem_of_getElem? (i := 616) (by decide +kernel)) (by decide +kernel)
theorem ml_X2_53 : Cond.methodLink RX2 53 yX2_readDish ∈ gT := gT_in (List.mem_of_getElem? (i := 626) (by decide +kernel)) (by decide +kernel)
theorem ml_X2_71 : Cond.methodLink RX2 71 yX0_addDish ∈ gT := gT_in (List.mem_of_getElem? (i := 632) (by decide +kernel)) (by decide +kernel)
theorem ml_X2_75 : Cond.methodLink RX2 75 yX0_putDishFact ∈ gT := gT_in (List.mem_of_getElem? (i := 633) (by decide +kernel)) (by decide +kernel)
theorem ml_L_138 : Cond.methodLink RL 138 yX3_hold ∈ gT := gT_in (List.mem_of_getElem? (i := 635) (by decide +kernel)) (by decide +kernel)
theorem ml_X3_224 : Cond.methodLink RX3 224 yX3_isSpot ∈ gT := gT_in (List.mem_of_getElem? (i := 639) (by decide +kernel)) (by decide +kernel)
theorem ml_L_142 : Cond.methodLink RL 142 yX3_as ∈ gT := gT_in (List.mem_of_getElem? (i := 642) (by decide +kernel)) (by decide +kernel)
theorem ml_X3_231 : Cond.methodLink RX3 231 yX0_isUnder ∈ gT := gT_in (List.mem_of_getElem? (i := 646) (by decide +kernel)) (by decide +kernel)
theorem ml_L_146 : Cond.methodLink RL 146 yX3_sheet ∈ gT := gT_in (List.mem_of_getElem? (i := 652) (by decide +kernel)) (by decide +kernel)
theorem ml_X3_239 : Cond.methodLink RX3 239 yX1_start ∈ gT := gT_in (List.mem_of_getElem? (i := 657) (by decide +kernel)) (by decide +kernel)
theorem ml_L_150 : Cond.methodLink RL 150 yX3_write ∈ gT := gT_in (List.mem_of_getElem? (i := 661) (by decide +kernel)) (by decide +kernel)
theorem ml_X3_243 : Cond.methodLink RX3 243 yX1_put ∈ gT := gT_in (List.mem_of_getElem? (i := 665) (by decide +kernel)) (by decide +kernel)
theorem ml_L_154 : Cond.methodLink RL 154 yX3_copy ∈ gT := gT_in (List.mem_of_getElem? (i := 669) (by decide +kernel)) (by decide +kernel)
theorem ml_X3_253 : Cond.methodLink RX3 253 yX1_hasRange ∈ gT := gT_in (List.mem_of_getElem? (i := 673) (by decide +kernel)) (by decide +kernel)
theorem ml_X3_259 : Cond.methodLink RX3 259 arraycopyName ∈ gT := gT_in (List.mem_of_getElem? (i := 677) (by decide +kernel)) (by decide +kernel)
theorem ml_L_159 : Cond.methodLink RL 159 yX3_load ∈ gT := gT_in (List.mem_of_getElem? (i := 678) (by decide +kernel)) (by decide +kernel)
theorem ml_X3_265 : Cond.methodLink RX3 265 Lib.Math.min.name ∈ gT := gT_in (List.mem_of_getElem? (i := 682) (by decide +kernel)) (by decide +kernel)
theorem ml_L_163 : Cond.methodLink RL 163 yX3_judge ∈ gT := gT_in (List.mem_of_getElem? (i := 683) (by decide +kernel)) (by decide +kernel)
theorem ml_L_167 : Cond.methodLink RL 167 yX3_image ∈ gT := gT_in (List.mem_of_getElem? (i := 687) (by decide +kernel)) (by decide +kernel)
theorem ml_L_171 : Cond.methodLink RL 171 yX3_undo ∈ gT := gT_in (List.mem_of_getElem? (i := 691) (by decide +kernel)) (by decide +kernel)
theorem ml_L_175 : Cond.methodLink RL 175 yX3_tear ∈ gT := gT_in (List.mem_of_getElem? (i := 695) (by decide +kernel)) (by decide +kernel)
theorem ml_L_179 : Cond.methodLink RL 179 yX3_count ∈ gT := gT_in (List.mem_of_getElem? (i := 699) (by decide +kernel)) (by decide +kernel)
theorem ml_X3_270 : Cond.methodLink RX3 270 yX0_spotsInUse ∈ gT := gT_in (List.mem_of_getElem? (i := 703) (by decide +kernel)) (by decide +kernel)
theorem ml_L_183 : Cond.methodLink RL 183 yX3_status ∈ gT := gT_in (List.mem_of_getElem? (i := 707) (by decide +kernel)) (by decide +kernel)
theorem ml_L_12 : Cond.methodLink RL 12 yX4_init ∈ gT := gT_in (List.mem_of_getElem? (i := 713) (by decide +kernel)) (by decide +kernel)
theorem ml_L_17 : Cond.methodLink RL 17 yX4_list ∈ gT := gT_in (List.mem_of_getElem? (i := 763) (by decide +kernel)) (by decide +kernel)
theorem ml_X4_55 : Cond.methodLink RX4 55 yX4_isPlace ∈ gT := gT_in (List.mem_of_getElem? (i := 767) (by decide +kernel)) (by decide +kernel)
theorem ml_X4_40 : Cond.methodLink RX4 40 yX4_in ∈ gT := gT_in (List.mem_of_getElem? (i := 770) (by decide +kernel)) (by decide +kernel)
theorem ml_X4_59 : Cond.methodLink RX4 59 yX4_becomes ∈ gT := gT_in (List.mem_of_getElem? (i := 773) (by decide +kernel)) (by decide +kernel)
theorem ml_X4_36 : Cond.methodLink RX4 36 yX4_finds ∈ gT := gT_in (List.mem_of_getElem? (i := 778) (by decide +kernel)) (by decide +kernel)
theorem ml_L_22 : Cond.methodLink RL 22 yX4_listed ∈ gT := gT_in (List.mem_of_getElem? (i := 782) (by decide +kernel)) (by decide +kernel)
theorem ml_L_26 : Cond.methodLink RL 26 yX4_dish ∈ gT := gT_in (List.mem_of_getElem? (i := 786) (by decide +kernel)) (by decide +kernel)
theorem ml_X4_66 : Cond.methodLink RX4 66 yX4_isTown ∈ gT := gT_in (List.mem_of_getElem? (i := 790) (by decide +kernel)) (by decide +kernel)
theorem ml_X4_70 : Cond.methodLink RX4 70 yX4_comes ∈ gT := gT_in (List.mem_of_getElem? (i := 794) (by decide +kernel)) (by decide +kernel)
theorem ml_X4_62 : Cond.methodLink RX4 62 yX4_put ∈ gT := gT_in (List.mem_of_getElem? (i := 798) (by decide +kernel)) (by decide +kernel)
theorem ml_L_30 : Cond.methodLink RL 30 yX4_guest ∈ gT := gT_in (List.mem_of_getElem? (i := 802) (by decide +kernel)) (by decide +kernel)
theorem ml_X4_77 : Cond.methodLink RX4 77 yX4_enters ∈ gT := gT_in (List.mem_of_getElem? (i := 806) (by decide +kernel)) (by decide +kernel)
theorem ml_X4_74 : Cond.methodLink RX4 74 yX4_lets ∈ gT := gT_in (List.mem_of_getElem? (i := 810) (by decide +kernel)) (by decide +kernel)
theorem ml_L_35 : Cond.methodLink RL 35 yX4_of ∈ gT := gT_in (List.mem_of_getElem? (i := 814) (by decide +kernel)) (by decide +kernel)
theorem ml_X4_80 : Cond.methodLink RX4 80 yX4_isDish ∈ gT := gT_in (List.mem_of_getElem? (i := 818) (by decide +kernel)) (by decide +kernel)
theorem ml_X4_48 : Cond.methodLink RX4 48 yX4_it ∈ gT := gT_in (List.mem_of_getElem? (i := 822) (by decide +kernel)) (by decide +kernel)
theorem ml_L_39 : Cond.methodLink RL 39 yX4_change ∈ gT := gT_in (List.mem_of_getElem? (i := 826) (by decide +kernel)) (by decide +kernel)
theorem ml_X4_83 : Cond.methodLink RX4 83 yX4_mostOf ∈ gT := gT_in (List.mem_of_getElem? (i := 830) (by decide +kernel)) (by decide +kernel)
theorem ml_L_43 : Cond.methodLink RL 43 yX4_ofGuest ∈ gT := gT_in (List.mem_of_getElem? (i := 833) (by decide +kernel)) (by decide +kernel)
theorem ml_X4_86 : Cond.methodLink RX4 86 yX4_isGuest ∈ gT := gT_in (List.mem_of_getElem? (i := 837) (by decide +kernel)) (by decide +kernel)
theorem ml_X4_44 : Cond.methodLink RX4 44 yX4_his ∈ gT := gT_in (List.mem_of_getElem? (i := 841) (by decide +kernel)) (by decide +kernel)
theorem ml_L_47 : Cond.methodLink RL 47 yX4_seat ∈ gT := gT_in (List.mem_of_getElem? (i := 845) (by decide +kernel)) (by decide +kernel)
theorem ml_X4_90 : Cond.methodLink RX4 90 yX4_mostOfGuest ∈ gT := gT_in (List.mem_of_getElem? (i := 849) (by decide +kernel)) (by decide +kernel)
theorem ml_L_51 : Cond.methodLink RL 51 yX4_would ∈ gT := gT_in (List.mem_of_getElem? (i := 853) (by decide +kernel)) (by decide +kernel)
theorem ml_X4_93 : Cond.methodLink RX4 93 yX4_isLeft ∈ gT := gT_in (List.mem_of_getElem? (i := 857) (by decide +kernel)) (by decide +kernel)
theorem ml_X4_51 : Cond.methodLink RX4 51 yX4_isAnotherFor ∈ gT := gT_in (List.mem_of_getElem? (i := 861) (by decide +kernel)) (by decide +kernel)
theorem ml_X4_96 : Cond.methodLink RX4 96 yX4_costs ∈ gT := gT_in (List.mem_of_getElem? (i := 865) (by decide +kernel)) (by decide +kernel)
theorem ml_X4_100 : Cond.methodLink RX4 100 yX4_bends ∈ gT := gT_in (List.mem_of_getElem? (i := 869) (by decide +kernel)) (by decide +kernel)
theorem ml_L_55 : Cond.methodLink RL 55 yX4_eat ∈ gT := gT_in (List.mem_of_getElem? (i := 873) (by decide +kernel)) (by decide +kernel)
theorem ml_X4_108 : Cond.methodLink RX4 108 yX4_eats ∈ gT := gT_in (List.mem_of_getElem? (i := 878) (by decide +kernel)) (by decide +kernel)
theorem ml_X4_104 : Cond.methodLink RX4 104 yX4_held ∈ gT := gT_in (List.mem_of_getElem? (i := 882) (by decide +kernel)) (by decide +kernel)
theorem ml_L_59 : Cond.methodLink RL 59 yX4_go ∈ gT := gT_in (List.mem_of_getElem? (i := 885) (by decide +kernel)) (by decide +kernel)
theorem ml_X4_114 : Cond.methodLink RX4 114 yX4_goesFor ∈ gT := gT_in (List.mem_of_getElem? (i := 889) (by decide +kernel)) (by decide +kernel)
theorem ml_X4_111 : Cond.methodLink RX4 111 yX4_goes ∈ gT := gT_in (List.mem_of_getElem? (i := 893) (by decide +kernel)) (by decide +kernel)
theorem ml_X4_118 : Cond.methodLink RX4 118 yX4_bills ∈ gT := gT_in (List.mem_of_getElem? (i := 897) (by decide +kernel)) (by decide +kernel)
theorem ml_L_63 : Cond.methodLink RL 63 yX4_now ∈ gT := gT_in (List.mem_of_getElem? (i := 901) (by decide +kernel)) (by decide +kernel)
theorem ml_X4_122 : Cond.methodLink RX4 122 yX4_aims ∈ gT := gT_in (List.mem_of_getElem? (i := 905) (by decide +kernel)) (by decide +kernel)
theorem ml_X4_125 : Cond.methodLink RX4 125 yX4_allBeen ∈ gT := gT_in (List.mem_of_getElem? (i := 909) (by decide +kernel)) (by decide +kernel)
theorem ml_X4_128 : Cond.methodLink RX4 128 yX4_allServed ∈ gT := gT_in (List.mem_of_getElem? (i := 913) (by decide +kernel)) (by decide +kernel)
theorem ml_X4_131 : Cond.methodLink RX4 131 yX4_pairsApart ∈ gT := gT_in (List.mem_of_getElem? (i := 917) (by decide +kernel)) (by decide +kernel)
theorem ml_X4_134 : Cond.methodLink RX4 134 yX4_onCard ∈ gT := gT_in (List.mem_of_getElem? (i := 921) (by decide +kernel)) (by decide +kernel)
theorem ml_X4_137 : Cond.methodLink RX4 137 yX4_debtor ∈ gT := gT_in (List.mem_of_getElem? (i := 925) (by decide +kernel)) (by decide +kernel)
theorem ml_L_67 : Cond.methodLink RL 67 yX4_ahead ∈ gT := gT_in (List.mem_of_getElem? (i := 929) (by decide +kernel)) (by decide +kernel)
theorem ml_X4_150 : Cond.methodLink RX4 150 yX4_behind ∈ gT := gT_in (List.mem_of_getElem? (i := 933) (by decide +kernel)) (by decide +kernel)
theorem ml_X4_144 : Cond.methodLink RX4 144 yX4_thinks ∈ gT := gT_in (List.mem_of_getElem? (i := 937) (by decide +kernel)) (by decide +kernel)
theorem ml_X4_140 : Cond.methodLink RX4 140 yX4_copyAll ∈ gT := gT_in (List.mem_of_getElem? (i := 941) (by decide +kernel)) (by decide +kernel)
theorem ml_X4_147 : Cond.methodLink RX4 147 yX4_putsBack ∈ gT := gT_in (List.mem_of_getElem? (i := 944) (by decide +kernel)) (by decide +kernel)
theorem ml_L_71 : Cond.methodLink RL 71 yX4_served ∈ gT := gT_in (List.mem_of_getElem? (i := 948) (by decide +kernel)) (by decide +kernel)
theorem ml_L_75 : Cond.methodLink RL 75 yX4_when ∈ gT := gT_in (List.mem_of_getElem? (i := 952) (by decide +kernel)) (by decide +kernel)
theorem ml_L_79 : Cond.methodLink RL 79 yX4_owes ∈ gT := gT_in (List.mem_of_getElem? (i := 957) (by decide +kernel)) (by decide +kernel)
theorem ml_L_83 : Cond.methodLink RL 83 yX4_part ∈ gT := gT_in (List.mem_of_getElem? (i := 961) (by decide +kernel)) (by decide +kernel)
theorem ml_L_87 : Cond.methodLink RL 87 yX4_dishFor ∈ gT := gT_in (List.mem_of_getElem? (i := 965) (by decide +kernel)) (by decide +kernel)
theorem ml_X4_153 : Cond.methodLink RX4 153 yX4_leastBy ∈ gT := gT_in (List.mem_of_getElem? (i := 969) (by decide +kernel)) (by decide +kernel)
theorem ml_L_91 : Cond.methodLink RL 91 yX4_kindFor ∈ gT := gT_in (List.mem_of_getElem? (i := 973) (by decide +kernel)) (by decide +kernel)
theorem ml_L_95 : Cond.methodLink RL 95 yX4_bentFor ∈ gT := gT_in (List.mem_of_getElem? (i := 977) (by decide +kernel)) (by decide +kernel)
theorem ml_X4_157 : Cond.methodLink RX4 157 yX4_orNone ∈ gT := gT_in (List.mem_of_getElem? (i := 981) (by decide +kernel)) (by decide +kernel)
theorem ml_L_99 : Cond.methodLink RL 99 yX4_courses ∈ gT := gT_in (List.mem_of_getElem? (i := 985) (by decide +kernel)) (by decide +kernel)
theorem ml_X4_160 : Cond.methodLink RX4 160 yX4_doBring ∈ gT := gT_in (List.mem_of_getElem? (i := 989) (by decide +kernel)) (by decide +kernel)
theorem ml_L_103 : Cond.methodLink RL 103 yX4_strike ∈ gT := gT_in (List.mem_of_getElem? (i := 993) (by decide +kernel)) (by decide +kernel)
theorem ml_X4_164 : Cond.methodLink RX4 164 yX4_bits ∈ gT := gT_in (List.mem_of_getElem? (i := 997) (by decide +kernel)) (by decide +kernel)
theorem ml_X4_167 : Cond.methodLink RX4 167 yX4_isElsewhere ∈ gT := gT_in (List.mem_of_getElem? (i := 1000) (by decide +kernel)) (by decide +kernel)
theorem ml_L_107 : Cond.methodLink RL 107 yX4_fits ∈ gT := gT_in (List.mem_of_getElem? (i := 1004) (by decide +kernel)) (by decide +kernel)
theorem ml_X4_174 : Cond.methodLink RX4 174 yX4_notThere ∈ gT := gT_in (List.mem_of_getElem? (i := 1008) (by decide +kernel)) (by decide +kernel)
theorem ml_X4_170 : Cond.methodLink RX4 170 yX4_isSheet ∈ gT := gT_in (List.mem_of_getElem? (i := 1012) (by decide +kernel)) (by decide +kernel)
theorem ml_X4_177 : Cond.methodLink RX4 177 yX4_isTold ∈ gT := gT_in (List.mem_of_getElem? (i := 1016) (by decide +kernel)) (by decide +kernel)
theorem ml_L_111 : Cond.methodLink RL 111 yX4_kinds ∈ gT := gT_in (List.mem_of_getElem? (i := 1020) (by decide +kernel)) (by decide +kernel)
theorem ml_L_115 : Cond.methodLink RL 115 yX4_coach ∈ gT := gT_in (List.mem_of_getElem? (i := 1024) (by decide +kernel)) (by decide +kernel)
theorem ml_X4_181 : Cond.methodLink RX4 181 yX4_draw ∈ gT := gT_in (List.mem_of_getElem? (i := 1028) (by decide +kernel)) (by decide +kernel)
theorem ml_L_120 : Cond.methodLink RL 120 yX4_odds ∈ gT := gT_in (List.mem_of_getElem? (i := 1033) (by decide +kernel)) (by decide +kernel)
theorem ml_L_124 : Cond.methodLink RL 124 yX4_seed ∈ gT := gT_in (List.mem_of_getElem? (i := 1037) (by decide +kernel)) (by decide +kernel)
theorem ml_L_128 : Cond.methodLink RL 128 yX4_feed ∈ gT := gT_in (List.mem_of_getElem? (i := 1041) (by decide +kernel)) (by decide +kernel)
theorem ml_L_133 : Cond.methodLink RL 133 yX4_wipe ∈ gT := gT_in (List.mem_of_getElem? (i := 1045) (by decide +kernel)) (by decide +kernel)
theorem ml_L_137 : Cond.methodLink RL 137 yX4_text ∈ gT := gT_in (List.mem_of_getElem? (i := 1049) (by decide +kernel)) (by decide +kernel)
theorem ml_X4_216 : Cond.methodLink RX4 216 yX4_reads ∈ gT := gT_in (List.mem_of_getElem? (i := 1053) (by decide +kernel)) (by decide +kernel)
theorem ml_X4_200 : Cond.methodLink RX4 200 yX4_isByte ∈ gT := gT_in (List.mem_of_getElem? (i := 1057) (by decide +kernel)) (by decide +kernel)
theorem ml_X4_209 : Cond.methodLink RX4 209 yX4_wordHere ∈ gT := gT_in (List.mem_of_getElem? (i := 1061) (by decide +kernel)) (by decide +kernel)
theorem ml_X4_197 : Cond.methodLink RX4 197 yX4_isName ∈ gT := gT_in (List.mem_of_getElem? (i := 1065) (by decide +kernel)) (by decide +kernel)
theorem ml_X4_237 : Cond.methodLink RX4 237 yX4_item ∈ gT := gT_in (List.mem_of_getElem? (i := 1071) (by decide +kernel)) (by decide +kernel)
theorem ml_X4_228 : Cond.methodLink RX4 228 yX4_dishItem ∈ gT := gT_in (List.mem_of_getElem? (i := 1075) (by decide +kernel)) (by decide +kernel)
theorem ml_X4_222 : Cond.methodLink RX4 222 yX4_number ∈ gT := gT_in (List.mem_of_getElem? (i := 1079) (by decide +kernel)) (by decide +kernel)
theorem ml_X4_225 : Cond.methodLink RX4 225 yX4_perhaps ∈ gT := gT_in (List.mem_of_getElem? (i := 1083) (by decide +kernel)) (by decide +kernel)
theorem ml_X4_219 : Cond.methodLink RX4 219 yX4_takes ∈ gT := gT_in (List.mem_of_getElem? (i := 1087) (by decide +kernel)) (by decide +kernel)
theorem ml_X4_231 : Cond.methodLink RX4 231 yX4_guestItem ∈ gT := gT_in (List.mem_of_getElem? (i := 1091) (by decide +kernel)) (by decide +kernel)
theorem ml_X4_234 : Cond.methodLink RX4 234 yX4_mealItem ∈ gT := gT_in (List.mem_of_getElem? (i := 1095) (by decide +kernel)) (by decide +kernel)
theorem ml_L_141 : Cond.methodLink RL 141 yX4_hold ∈ gT := gT_in (List.mem_of_getElem? (i := 1099) (by decide +kernel)) (by decide +kernel)
theorem ml_L_145 : Cond.methodLink RL 145 yX4_as ∈ gT := gT_in (List.mem_of_getElem? (i := 1103) (by decide +kernel)) (by decide +kernel)
theorem ml_X4_240 : Cond.methodLink RX4 240 yX4_isUnder ∈ gT := gT_in (List.mem_of_getElem? (i := 1107) (by decide +kernel)) (by decide +kernel)
theorem ml_L_149 : Cond.methodLink RL 149 yX4_sheet ∈ gT := gT_in (List.mem_of_getElem? (i := 1111) (by decide +kernel)) (by decide +kernel)
theorem ml_L_153 : Cond.methodLink RL 153 yX4_write ∈ gT := gT_in (List.mem_of_getElem? (i := 1116) (by decide +kernel)) (by decide +kernel)
theorem ml_L_158 : Cond.methodLink RL 158 yX4_copy ∈ gT := gT_in (List.mem_of_getElem? (i := 1120) (by decide +kernel)) (by decide +kernel)
theorem ml_X4_245 : Cond.methodLink RX4 245 yX4_notCopied ∈ gT := gT_in (List.mem_of_getElem? (i := 1124) (by decide +kernel)) (by decide +kernel)
theorem ml_L_162 : Cond.methodLink RL 162 yX4_load ∈ gT := gT_in (List.mem_of_getElem? (i := 1128) (by decide +kernel)) (by decide +kernel)
theorem ml_L_166 : Cond.methodLink RL 166 yX4_judge ∈ gT := gT_in (List.mem_of_getElem? (i := 1132) (by decide +kernel)) (by decide +kernel)
theorem ml_L_170 : Cond.methodLink RL 170 yX4_image ∈ gT := gT_in (List.mem_of_getElem? (i := 1136) (by decide +kernel)) (by decide +kernel)
theorem ml_L_174 : Cond.methodLink RL 174 yX4_undo ∈ gT := gT_in (List.mem_of_getElem? (i := 1140) (by decide +kernel)) (by decide +kernel)
theorem ml_L_178 : Cond.methodLink RL 178 yX4_tear ∈ gT := gT_in (List.mem_of_getElem? (i := 1144) (by decide +kernel)) (by decide +kernel)
theorem ml_L_182 : Cond.methodLink RL 182 yX4_count ∈ gT := gT_in (List.mem_of_getElem? (i := 1148) (by decide +kernel)) (by decide +kernel)
theorem ml_X4_252 : Cond.methodLink RX4 252 yX4_manyHeld ∈ gT := gT_in (List.mem_of_getElem? (i := 1152) (by decide +kernel)) (by decide +kernel)
theorem ml_L_186 : Cond.methodLink RL 186 yX4_status ∈ gT := gT_in (List.mem_of_getElem? (i := 1156) (by decide +kernel)) (by decide +kernel)
theorem fl_X0_11 : FL RX0 11 0 0 := ⟨_, _, _, rfl, by decide, gT_in (List.mem_of_getElem? (i := 80) (by decide +kernel)) (by decide +kernel), iuX0⟩
theorem fl_X3_57 : FL RX3 57 0 0 := ⟨_, _, _, rfl, by decide, gT_in (List.mem_of_getElem? (i := 81) (by decide +kernel)) (by decide +kernel), iuX0⟩
theorem fl_X0_15 : FL RX0 15 0 1 := ⟨_, _, _, rfl, by decide, gT_in (List.mem_of_getElem? (i := 82) (by decide +kernel)) (by decide +kernel), iuX0⟩
theorem fl_X0_18 : FL RX0 18 0 2 := ⟨_, _, _, rfl, by decide, gT_in (List.mem_of_getElem? (i := 83) (by decide +kernel)) (by decide +kernel), iuX0⟩
theorem fl_X0_21 : FL RX0 21 0 3 := ⟨_, _, _, rfl, by decide, gT_in (List.mem_of_getElem? (i := 84) (by decide +kernel)) (by decide +kernel), iuX0⟩
theorem fl_X3_227 : FL RX3 227 0 3 := ⟨_, _, _, rfl, by decide, gT_in (List.mem_of_getElem? (i := 85) (by decide +kernel)) (by decide +kernel), iuX0⟩
theorem fl_X0_34 : FL RX0 34 0 4 := ⟨_, _, _, rfl, by decide, gT_in (List.mem_of_getElem? (i := 86) (by decide +kernel)) (by decide +kernel), iuX0⟩
theorem fl_X3_70 : FL RX3 70 0 4 := ⟨_, _, _, rfl, by decide, gT_in (List.mem_of_getElem? (i := 87) (by decide +kernel)) (by decide +kernel), iuX0⟩
theorem fl_X2_57 : FL RX2 57 0 4 := ⟨_, _, _, rfl, by decide, gT_in (List.mem_of_getElem? (i := 88) (by decide +kernel)) (by decide +kernel), iuX0⟩
theorem fl_X0_37 : FL RX0 37 0 5 := ⟨_, _, _, rfl, by decide, gT_in (List.mem_of_getElem? (i := 89) (by decide +kernel)) (by decide +kernel), iuX0⟩
theorem fl_X3_82 : FL RX3 82 0 5 := ⟨_, _, _, rfl, by decide, gT_in (List.mem_of_getElem? (i := 90) (by decide +kernel)) (by decide +kernel), iuX0⟩
theorem fl_X2_81 : FL RX2 81 0 5 := ⟨_, _, _, rfl, by decide, gT_in (List.mem_of_getElem? (i := 91) (by decide +kernel)) (by decide +kernel), iuX0⟩
theorem fl_X0_40 : FL RX0 40 0 6 := ⟨_, _, _, rfl, by decide, gT_in (List.mem_of_getElem? (i := 92) (by decide +kernel)) (by decide +kernel), iuX0⟩
theorem fl_X3_139 : FL RX3 139 0 6 := ⟨_, _, _, rfl, by decide, gT_in (List.mem_of_getElem? (i := 93) (by decide +kernel)) (by decide +kernel), iuX0⟩
theorem fl_X0_24 : FL RX0 24 0 7 := ⟨_, _, _, rfl, by decide, gT_in (List.mem_of_getElem? (i := 94) (by decide +kernel)) (by decide +kernel), iuX0⟩
theorem fl_X3_210 : FL RX3 210 0 7 := ⟨_, _, _, rfl, by decide, gT_in (List.mem_of_getElem? (i := 95) (by decide +kernel)) (by decide +kernel), iuX0⟩
theorem fl_X2_9 : FL RX2 9 2 0 := ⟨_, _, _, rfl, by decide, gT_in (List.mem_of_getElem? (i := 120) (by decide +kernel)) (by decide +kernel), iuX2⟩
theorem fl_X2_13 : FL RX2 13 2 1 := ⟨_, _, _, rfl, by decide, gT_in (List.mem_of_getElem? (i := 121) (by decide +kernel)) (by decide +kernel), iuX2⟩
theorem fl_X3_213 : FL RX3 213 2 1 := ⟨_, _, _, rfl, by decide, gT_in (List.mem_of_getElem? (i := 122) (by decide +kernel)) (by decide +kernel), iuX2⟩
theorem fl_X2_27 : FL RX2 27 2 2 := ⟨_, _, _, rfl, by decide, gT_in (List.mem_of_getElem? (i := 123) (by decide +kernel)) (by decide +kernel), iuX2⟩
theorem fl_X2_30 : FL RX2 30 2 3 := ⟨_, _, _, rfl, by decide, gT_in (List.mem_of_getElem? (i := 124) (by decide +kernel)) (by decide +kernel), iuX2⟩
theorem fl_X2_17 : FL RX2 17 2 4 := ⟨_, _, _, rfl, by decide, gT_in (List.mem_of_getElem? (i := 125) (by decide +kernel)) (by decide +kernel), iuX2⟩
theorem fl_X2_95 : FL RX2 95 2 5 := ⟨_, _, _, rfl, by decide, gT_in (List.mem_of_getElem? (i := 126) (by decide +kernel)) (by decide +kernel), iuX2⟩
theorem fl_X1_9 : FL RX1 9 1 0 := ⟨_, _, _, rfl, by decide, gT_in (List.mem_of_getElem? (i := 148) (by decide +kernel)) (by decide +kernel), iuX1⟩
theorem fl_X3_256 : FL RX3 256 1 0 := ⟨_, _, _, rfl, by decide, gT_in (List.mem_of_getElem? (i := 149) (by decide +kernel)) (by decide +kernel), iuX1⟩
theorem fl_X1_13 : FL RX1 13 1 1 := ⟨_, _, _, rfl, by decide, gT_in (List.mem_of_getElem? (i := 150) (by decide +kernel)) (by decide +kernel), iuX1⟩
theorem fl_X3_250 : FL RX3 250 1 1 := ⟨_, _, _, rfl, by decide, gT_in (List.mem_of_getElem? (i := 151) (by decide +kernel)) (by decide +kernel), iuX1⟩
theorem fl_X1_17 : FL RX1 17 1 2 := ⟨_, _, _, rfl, by decide, gT_in (List.mem_of_getElem? (i := 152) (by decide +kernel)) (by decide +kernel), iuX1⟩
theorem fl_X3_242 : FL RX3 242 1 2 := ⟨_, _, _, rfl, by decide, gT_in (List.mem_of_getElem? (i := 153) (by decide +kernel)) (by decide +kernel), iuX1⟩
theorem fl_X3_12 : FL RX3 12 3 0 := ⟨_, _, _, rfl, by decide, gT_in (List.mem_of_getElem? (i := 161) (by decide +kernel)) (by decide +kernel), iuX3⟩
theorem fl_X3_16 : FL RX3 16 3 1 := ⟨_, _, _, rfl, by decide, gT_in (List.mem_of_getElem? (i := 162) (by decide +kernel)) (by decide +kernel), iuX3⟩
theorem fl_X3_19 : FL RX3 19 3 2 := ⟨_, _, _, rfl, by decide, gT_in (List.mem_of_getElem? (i := 163) (by decide +kernel)) (by decide +kernel), iuX3⟩
theorem fl_X3_25 : FL RX3 25 3 3 := ⟨_, _, _, rfl, by decide, gT_in (List.mem_of_getElem? (i := 164) (by decide +kernel)) (by decide +kernel), iuX3⟩
theorem fl_X3_31 : FL RX3 31 3 4 := ⟨_, _, _, rfl, by decide, gT_in (List.mem_of_getElem? (i := 165) (by decide +kernel)) (by decide +kernel), iuX3⟩
theorem fl_X3_36 : FL RX3 36 3 5 := ⟨_, _, _, rfl, by decide, gT_in (List.mem_of_getElem? (i := 166) (by decide +kernel)) (by decide +kernel), iuX3⟩
theorem fl_X3_40 : FL RX3 40 3 6 := ⟨_, _, _, rfl, by decide, gT_in (List.mem_of_getElem? (i := 167) (by decide +kernel)) (by decide +kernel), iuX3⟩
theorem fs_X3_95 : Cond.fieldLink RX3 95 "ForkInn$Inn" "DISH_TOPS" "[I" ∈ gT := gT_in (List.mem_of_getElem? (i := 256) (by decide +kernel)) (by decide +kernel)
theorem fs_X3_110 : Cond.fieldLink RX3 110 "ForkInn$Inn" "GUEST_TOPS" "[I" ∈ gT := gT_in (List.mem_of_getElem? (i := 278) (by decide +kernel)) (by decide +kernel)
theorem fs_J0_38 : Cond.fieldLink RJ0 38 "java/lang/String" "COMPACT_STRINGS" "Z" ∈ gT := gT_in (List.mem_of_getElem? (i := 555) (by decide +kernel)) (by decide +kernel)
theorem fs_J0_1053 : Cond.fieldLink RJ0 1053 "jdk/internal/util/Preconditions" "SIOOBE_FORMATTER" "Ljava/util/function/BiFunction;" ∈ gT := gT_in (List.mem_of_getElem? (i := 571) (by decide +kernel)) (by decide +kernel)
theorem fs_J2_44 : Cond.fieldLink RJ2 44 "java/lang/StringUTF16" "$assertionsDisabled" "Z" ∈ gT := gT_in (List.mem_of_getElem? (i := 589) (by decide +kernel)) (by decide +kernel)
theorem fs_J2_59 : Cond.fieldLink RJ2 59 "java/lang/StringUTF16" "HI_BYTE_SHIFT" "I" ∈ gT := gT_in (List.mem_of_getElem? (i := 591) (by decide +kernel)) (by decide +kernel)
theorem fs_J2_63 : Cond.fieldLink RJ2 63 "java/lang/StringUTF16" "LO_BYTE_SHIFT" "I" ∈ gT := gT_in (List.mem_of_getElem? (i := 593) (by decide +kernel)) (by decide +kernel)
theorem fs_X0_54 : Cond.fieldLink RX0 54 "ForkInn$Inn" "KIND_ABOVE" "[I" ∈ gT := gT_in (List.mem_of_getElem? (i := 649) (by decide +kernel)) (by decide +kernel)
theorem fl_X4_9 : FL RX4 9 4 0 := ⟨_, _, _, rfl, by decide, gT_in (List.mem_of_getElem? (i := 717) (by decide +kernel)) (by decide +kernel), iuX4⟩
theorem fl_X4_13 : FL RX4 13 4 1 := ⟨_, _, _, rfl, by decide, gT_in (List.mem_of_getElem? (i := 718) (by decide +kernel)) (by decide +kernel), iuX4⟩
theorem fl_X4_16 : FL RX4 16 4 2 := ⟨_, _, _, rfl, by decide, gT_in (List.mem_of_getElem? (i := 719) (by decide +kernel)) (by decide +kernel), iuX4⟩
theorem fl_X4_249 : FL RX4 249 4 3 := ⟨_, _, _, rfl, by decide, gT_in (List.mem_of_getElem? (i := 720) (by decide +kernel)) (by decide +kernel), iuX4⟩
theorem fl_X4_19 : FL RX4 19 4 4 := ⟨_, _, _, rfl, by decide, gT_in (List.mem_of_getElem? (i := 721) (by decide +kernel)) (by decide +kernel), iuX4⟩
theorem fl_X4_22 : FL RX4 22 4 5 := ⟨_, _, _, rfl, by decide, gT_in (List.mem_of_getElem? (i := 722) (by decide +kernel)) (by decide +kernel), iuX4⟩
theorem fl_X4_25 : FL RX4 25 4 6 := ⟨_, _, _, rfl, by decide, gT_in (List.mem_of_getElem? (i := 723) (by decide +kernel)) (by decide +kernel), iuX4⟩
theorem fl_X4_28 : FL RX4 28 4 7 := ⟨_, _, _, rfl, by decide, gT_in (List.mem_of_getElem? (i := 724) (by decide +kernel)) (by decide +kernel), iuX4⟩
theorem fl_X4_31 : FL RX4 31 4 8 := ⟨_, _, _, rfl, by decide, gT_in (List.mem_of_getElem? (i := 725) (by decide +kernel)) (by decide +kernel), iuX4⟩
theorem fl_X4_184 : FL RX4 184 4 9 := ⟨_, _, _, rfl, by decide, gT_in (List.mem_of_getElem? (i := 726) (by decide +kernel)) (by decide +kernel), iuX4⟩
theorem fl_X4_206 : FL RX4 206 4 10 := ⟨_, _, _, rfl, by decide, gT_in (List.mem_of_getElem? (i := 727) (by decide +kernel)) (by decide +kernel), iuX4⟩
theorem fl_X4_191 : FL RX4 191 4 11 := ⟨_, _, _, rfl, by decide, gT_in (List.mem_of_getElem? (i := 728) (by decide +kernel)) (by decide +kernel), iuX4⟩
theorem fl_X4_194 : FL RX4 194 4 12 := ⟨_, _, _, rfl, by decide, gT_in (List.mem_of_getElem? (i := 729) (by decide +kernel)) (by decide +kernel), iuX4⟩
theorem fl_X4_203 : FL RX4 203 4 13 := ⟨_, _, _, rfl, by decide, gT_in (List.mem_of_getElem? (i := 730) (by decide +kernel)) (by decide +kernel), iuX4⟩
theorem fl_X4_212 : FL RX4 212 4 14 := ⟨_, _, _, rfl, by decide, gT_in (List.mem_of_getElem? (i := 731) (by decide +kernel)) (by decide +kernel), iuX4⟩
theorem fs_X4_188 : Cond.fieldLink RX4 188 "ForkInnModel" "NAMES" "[I" ∈ gT := gT_in (List.mem_of_getElem? (i := 1069) (by decide +kernel)) (by decide +kernel)
theorem fs_J0_9 : Cond.fieldLink RJ0 9 "java/lang/String" "value" "[B" ∈ gT := gT_in (List.mem_of_getElem? (i := 1160) (by decide +kernel)) (by decide +kernel)
theorem fs_J0_15 : Cond.fieldLink RJ0 15 "java/lang/String" "coder" "B" ∈ gT := gT_in (List.mem_of_getElem? (i := 1161) (by decide +kernel)) (by decide +kernel)
theorem fp_0_4 : FP 0 4 .int := ⟨_, _, _, tyX0, rfl, rfl, by decide +kernel, tyX0_ok, nmX0⟩
theorem fp_0_5 : FP 0 5 .int := ⟨_, _, _, tyX0, rfl, rfl, by decide +kernel, tyX0_ok, nmX0⟩
theorem fp_0_6 : FP 0 6 .int := ⟨_, _, _, tyX0, rfl, rfl, by decide +kernel, tyX0_ok, nmX0⟩
theorem fp_0_7 : FP 0 7 .int := ⟨_, _, _, tyX0, rfl, rfl, by decide +kernel, tyX0_ok, nmX0⟩
theorem fp_1_1 : FP 1 1 .int := ⟨_, _, _, tyX1, rfl, rfl, by decide +kernel, tyX1_ok, nmX1⟩
theorem fp_1_2 : FP 1 2 .int := ⟨_, _, _, tyX1, rfl, rfl, by decide +kernel, tyX1_ok, nmX1⟩
theorem fp_2_1 : FP 2 1 .int := ⟨_, _, _, tyX2, rfl, rfl, by decide +kernel, tyX2_ok, nmX2⟩
theorem fp_2_2 : FP 2 2 .int := ⟨_, _, _, tyX2, rfl, rfl, by decide +kernel, tyX2_ok, nmX2⟩
theorem fp_2_3 : FP 2 3 .int := ⟨_, _, _, tyX2, rfl, rfl, by decide +kernel, tyX2_ok, nmX2⟩
theorem fp_2_4 : FP 2 4 .int := ⟨_, _, _, tyX2, rfl, rfl, by decide +kernel, tyX2_ok, nmX2⟩
theorem fp_2_5 : FP 2 5 .int := ⟨_, _, _, tyX2, rfl, rfl, by decide +kernel, tyX2_ok, nmX2⟩
theorem fp_3_6 : FP 3 6 .boolean := ⟨_, _, _, tyX3, rfl, rfl, by decide +kernel, tyX3_ok, nmX3⟩
theorem fp_4_3 : FP 4 3 .boolean := ⟨_, _, _, tyX4, rfl, rfl, by decide +kernel, tyX4_ok, nmX4⟩
theorem fp_4_9 : FP 4 9 .int := ⟨_, _, _, tyX4, rfl, rfl, by decide +kernel, tyX4_ok, nmX4⟩
theorem fp_4_10 : FP 4 10 .int := ⟨_, _, _, tyX4, rfl, rfl, by decide +kernel, tyX4_ok, nmX4⟩
theorem fp_4_11 : FP 4 11 .int := ⟨_, _, _, tyX4, rfl, rfl, by decide +kernel, tyX4_ok, nmX4⟩
theorem fp_4_12 : FP 4 12 .int := ⟨_, _, _, tyX4, rfl, rfl, by decide +kernel, tyX4_ok, nmX4⟩
theorem fp_4_13 : FP 4 13 .int := ⟨_, _, _, tyX4, rfl, rfl, by decide +kernel, tyX4_ok, nmX4⟩
theorem fp_4_14 : FP 4 14 .boolean := ⟨_, _, _, tyX4, rfl, rfl, by decide +kernel, tyX4_ok, nmX4⟩
theorem lc_X3_52 : Cond.constant RX3 52 (-1000001) ∈ gT := gT_in (List.mem_of_getElem? (i := 193) (by decide +kernel)) (by decide +kernel)
theorem lc_X3_74 : Cond.constant RX3 74 (-1000002) ∈ gT := gT_in (List.mem_of_getElem? (i := 216) (by decide +kernel)) (by decide +kernel)
theorem lc_X3_134 : Cond.constant RX3 134 (-1000005) ∈ gT := gT_in (List.mem_of_getElem? (i := 317) (by decide +kernel)) (by decide +kernel)
theorem lc_X0_83 : Cond.constant RX0 83 (99999) ∈ gT := gT_in (List.mem_of_getElem? (i := 325) (by decide +kernel)) (by decide +kernel)
theorem lc_X3_142 : Cond.constant RX3 142 (99999) ∈ gT := gT_in (List.mem_of_getElem? (i := 342) (by decide +kernel)) (by decide +kernel)
theorem lc_X3_176 : Cond.constant RX3 176 (-1000004) ∈ gT := gT_in (List.mem_of_getElem? (i := 413) (by decide +kernel)) (by decide +kernel)
theorem lc_X3_180 : Cond.constant RX3 180 (1000000) ∈ gT := gT_in (List.mem_of_getElem? (i := 427) (by decide +kernel)) (by decide +kernel)
theorem lc_J6_265 : Cond.constant RJ6 265 (1431655765) ∈ gT := gT_in (List.mem_of_getElem? (i := 457) (by decide +kernel)) (by decide +kernel)
theorem lc_J6_266 : Cond.constant RJ6 266 (858993459) ∈ gT := gT_in (List.mem_of_getElem? (i := 458) (by decide +kernel)) (by decide +kernel)
theorem lc_J6_267 : Cond.constant RJ6 267 (252645135) ∈ gT := gT_in (List.mem_of_getElem? (i := 459) (by decide +kernel)) (by decide +kernel)
theorem lc_X3_230 : Cond.constant RX3 230 (-1000006) ∈ gT := gT_in (List.mem_of_getElem? (i := 479) (by decide +kernel)) (by decide +kernel)
theorem lc_X0_118 : Cond.constant RX0 118 (1103515245) ∈ gT := gT_in (List.mem_of_getElem? (i := 496) (by decide +kernel)) (by decide +kernel)
theorem lc_X3_234 : Cond.constant RX3 234 (-1000003) ∈ gT := gT_in (List.mem_of_getElem? (i := 651) (by decide +kernel)) (by decide +kernel)
theorem lc_X3_238 : Cond.constant RX3 238 (-1000007) ∈ gT := gT_in (List.mem_of_getElem? (i := 656) (by decide +kernel)) (by decide +kernel)
theorem lc_X4_34 : Cond.constant RX4 34 (-1000001) ∈ gT := gT_in (List.mem_of_getElem? (i := 777) (by decide +kernel)) (by decide +kernel)
theorem lc_X4_69 : Cond.constant RX4 69 (-1000002) ∈ gT := gT_in (List.mem_of_getElem? (i := 793) (by decide +kernel)) (by decide +kernel)
theorem lc_X4_89 : Cond.constant RX4 89 (99999) ∈ gT := gT_in (List.mem_of_getElem? (i := 852) (by decide +kernel)) (by decide +kernel)
theorem lc_X4_107 : Cond.constant RX4 107 (-1000005) ∈ gT := gT_in (List.mem_of_getElem? (i := 877) (by decide +kernel)) (by decide +kernel)
theorem lc_X4_35 : Cond.constant RX4 35 (-1000004) ∈ gT := gT_in (List.mem_of_getElem? (i := 956) (by decide +kernel)) (by decide +kernel)
theorem lc_X4_173 : Cond.constant RX4 173 (-1000006) ∈ gT := gT_in (List.mem_of_getElem? (i := 1015) (by decide +kernel)) (by decide +kernel)
theorem lc_X4_180 : Cond.constant RX4 180 (1103515245) ∈ gT := gT_in (List.mem_of_getElem? (i := 1032) (by decide +kernel)) (by decide +kernel)
theorem lc_X4_243 : Cond.constant RX4 243 (-1000003) ∈ gT := gT_in (List.mem_of_getElem? (i := 1110) (by decide +kernel)) (by decide +kernel)
theorem lc_X4_244 : Cond.constant RX4 244 (-1000007) ∈ gT := gT_in (List.mem_of_getElem? (i := 1115) (by decide +kernel)) (by decide +kernel)
