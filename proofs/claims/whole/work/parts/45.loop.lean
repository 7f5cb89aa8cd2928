/-! THE LAW'S LOOP -/
theorem lwp6 {n i : Nat} (hn : n ≤ 3072) (hi : i ≤ 3072) : nI n - 6 < nI i ↔ n < i + 6 := by
  rw [Int32.lt_iff_toInt_lt, Int32.toInt_sub, nI_toInt (n := n) (by omega), nI_toInt (n := i) (by omega)]
  show ((n : Int) - 6).bmod 4294967296 < (i : Int) ↔ _
  simp only [Int.bmod]
  split <;> omega
theorem law_next {X : Sc} {i : Nat} {h : Hp} (k : LG X (i + 6) 18 h) : LG X i 1563 h := by
  obtain ⟨h3, k⟩ := k
  refine ⟨h3, ?_⟩
  refine g_iinc dL_law_1563 rfl (v := nI (i + 6)) (nI_add i 6) (by decide) rfl ?_
  refine g_goto 18 dL_law_1566 (by decide) ?_
  exact k
def LSw (X : Sc) (i : Nat) (h : Hp) : Prop := ∃ h' : Hp, Go X RL cL_law 4 14 33 [.ref 104, .ref 0, .ref 28, .int (nI i)] [.int (X.1 i &&& 63)] h (some (.int 1)) h'
theorem law_hd {X : Sc} {i : Nat} {h : Hp} (hX : X.2 ≤ 3072) (hi : i + 6 ≤ X.2) (k : LSw X i h) : LG X i 18 h := by
  obtain ⟨h3, k⟩ := k
  refine ⟨h3, ?_⟩
  refine g_iload_n dL_law_18 rfl ?_
  refine g_aload_n dL_law_19 rfl ?_
  refine g_slen dL_law_20 ?_
  refine g_bipush dL_law_21 bp_6 ?_
  refine g_isub dL_law_23 ?_
  refine g_icmp_gt 1569 dL_law_24 (by decide) (fun c24 => ?_) (fun c24 => ?_)
  · exact absurd ((lwp6 hX (by omega)).mp c24) (by omega)
  · refine g_aload_n dL_law_27 rfl ?_
    refine g_iload_n dL_law_28 rfl ?_
    refine g_sld i dL_law_29 rfl (by omega) (by omega) ?_
    refine g_bipush dL_law_30 bp_63 ?_
    refine g_iand dL_law_32 ?_
    exact k
theorem law_end {X : Sc} {i : Nat} {h : Hp} (hX : X.2 ≤ 3072) (hi : i ≤ X.2) (hi6 : X.2 < i + 6) : LG X i 18 h := by
  refine ⟨h, ?_⟩
  refine g_iload_n dL_law_18 rfl ?_
  refine g_aload_n dL_law_19 rfl ?_
  refine g_slen dL_law_20 ?_
  refine g_bipush dL_law_21 bp_6 ?_
  refine g_isub dL_law_23 ?_
  refine g_icmp_gt 1569 dL_law_24 (by decide) (fun c24 => ?_) (fun c24 => ?_)
  · refine g_iconst dL_law_1569 ic_1 ?_
    exact g_ireturn dL_law_1570 rfl rfl
  · exact absurd ((lwp6 hX (by omega)).mpr hi6) c24
theorem law_no {X : Sc} {i : Nat} {h : Hp} {j : Nat} (hj : 42 ≤ j) (hj2 : j < 64) (e : X.1 i &&& 63 = nI j) (k : LG X i 1563 h) : LSw X i h := by
  obtain ⟨h3, k⟩ := k
  exact ⟨h3, g_tswd 1563 dL_law_33 (by rw [e, nI_toInt (by omega)]; omega) (by decide) k⟩

theorem law_c0 {X : Sc} {i : Nat} {h : Hp} (e : X.1 i &&& 63 = nI 0) (k : LG X i 216 h) : LSw X i h := by
  obtain ⟨h3, k⟩ := k
  exact ⟨h3, g_tswc (0) (0) (183) 216 dL_law_33 (by decide) (by decide) (by decide) rfl (by decide) (fun _ => k) (fun n _ => absurd (e.trans (by decide)) n)⟩
theorem law_c1 {X : Sc} {i : Nat} {h : Hp} (e : X.1 i &&& 63 = nI 1) (k : LG X i 259 h) : LSw X i h := by
  obtain ⟨h3, k⟩ := k
  exact ⟨h3, g_tswc (1) (1) (226) 259 dL_law_33 (by decide) (by decide) (by decide) rfl (by decide) (fun _ => k) (fun n _ => absurd (e.trans (by decide)) n)⟩
theorem law_c2 {X : Sc} {i : Nat} {h : Hp} (e : X.1 i &&& 63 = nI 2) (k : LG X i 282 h) : LSw X i h := by
  obtain ⟨h3, k⟩ := k
  exact ⟨h3, g_tswc (2) (2) (249) 282 dL_law_33 (by decide) (by decide) (by decide) rfl (by decide) (fun _ => k) (fun n _ => absurd (e.trans (by decide)) n)⟩
theorem law_c3 {X : Sc} {i : Nat} {h : Hp} (e : X.1 i &&& 63 = nI 3) (k : LG X i 325 h) : LSw X i h := by
  obtain ⟨h3, k⟩ := k
  exact ⟨h3, g_tswc (3) (3) (292) 325 dL_law_33 (by decide) (by decide) (by decide) rfl (by decide) (fun _ => k) (fun n _ => absurd (e.trans (by decide)) n)⟩
theorem law_c4 {X : Sc} {i : Nat} {h : Hp} (e : X.1 i &&& 63 = nI 4) (k : LG X i 348 h) : LSw X i h := by
  obtain ⟨h3, k⟩ := k
  exact ⟨h3, g_tswc (4) (4) (315) 348 dL_law_33 (by decide) (by decide) (by decide) rfl (by decide) (fun _ => k) (fun n _ => absurd (e.trans (by decide)) n)⟩
theorem law_c5 {X : Sc} {i : Nat} {h : Hp} (e : X.1 i &&& 63 = nI 5) (k : LG X i 381 h) : LSw X i h := by
  obtain ⟨h3, k⟩ := k
  exact ⟨h3, g_tswc (5) (5) (348) 381 dL_law_33 (by decide) (by decide) (by decide) rfl (by decide) (fun _ => k) (fun n _ => absurd (e.trans (by decide)) n)⟩
theorem law_c6 {X : Sc} {i : Nat} {h : Hp} (e : X.1 i &&& 63 = nI 6) (k : LG X i 424 h) : LSw X i h := by
  obtain ⟨h3, k⟩ := k
  exact ⟨h3, g_tswc (6) (6) (391) 424 dL_law_33 (by decide) (by decide) (by decide) rfl (by decide) (fun _ => k) (fun n _ => absurd (e.trans (by decide)) n)⟩
theorem law_c7 {X : Sc} {i : Nat} {h : Hp} (e : X.1 i &&& 63 = nI 7) (k : LG X i 457 h) : LSw X i h := by
  obtain ⟨h3, k⟩ := k
  exact ⟨h3, g_tswc (7) (7) (424) 457 dL_law_33 (by decide) (by decide) (by decide) rfl (by decide) (fun _ => k) (fun n _ => absurd (e.trans (by decide)) n)⟩
theorem law_c8 {X : Sc} {i : Nat} {h : Hp} (e : X.1 i &&& 63 = nI 8) (k : LG X i 500 h) : LSw X i h := by
  obtain ⟨h3, k⟩ := k
  exact ⟨h3, g_tswc (8) (8) (467) 500 dL_law_33 (by decide) (by decide) (by decide) rfl (by decide) (fun _ => k) (fun n _ => absurd (e.trans (by decide)) n)⟩
theorem law_c9 {X : Sc} {i : Nat} {h : Hp} (e : X.1 i &&& 63 = nI 9) (k : LG X i 543 h) : LSw X i h := by
  obtain ⟨h3, k⟩ := k
  exact ⟨h3, g_tswc (9) (9) (510) 543 dL_law_33 (by decide) (by decide) (by decide) rfl (by decide) (fun _ => k) (fun n _ => absurd (e.trans (by decide)) n)⟩
theorem law_c10 {X : Sc} {i : Nat} {h : Hp} (e : X.1 i &&& 63 = nI 10) (k : LG X i 576 h) : LSw X i h := by
  obtain ⟨h3, k⟩ := k
  exact ⟨h3, g_tswc (10) (10) (543) 576 dL_law_33 (by decide) (by decide) (by decide) rfl (by decide) (fun _ => k) (fun n _ => absurd (e.trans (by decide)) n)⟩
theorem law_c11 {X : Sc} {i : Nat} {h : Hp} (e : X.1 i &&& 63 = nI 11) (k : LG X i 599 h) : LSw X i h := by
  obtain ⟨h3, k⟩ := k
  exact ⟨h3, g_tswc (11) (11) (566) 599 dL_law_33 (by decide) (by decide) (by decide) rfl (by decide) (fun _ => k) (fun n _ => absurd (e.trans (by decide)) n)⟩
theorem law_c12 {X : Sc} {i : Nat} {h : Hp} (e : X.1 i &&& 63 = nI 12) (k : LG X i 622 h) : LSw X i h := by
  obtain ⟨h3, k⟩ := k
  exact ⟨h3, g_tswc (12) (12) (589) 622 dL_law_33 (by decide) (by decide) (by decide) rfl (by decide) (fun _ => k) (fun n _ => absurd (e.trans (by decide)) n)⟩
theorem law_c13 {X : Sc} {i : Nat} {h : Hp} (e : X.1 i &&& 63 = nI 13) (k : LG X i 665 h) : LSw X i h := by
  obtain ⟨h3, k⟩ := k
  exact ⟨h3, g_tswc (13) (13) (632) 665 dL_law_33 (by decide) (by decide) (by decide) rfl (by decide) (fun _ => k) (fun n _ => absurd (e.trans (by decide)) n)⟩
theorem law_c14 {X : Sc} {i : Nat} {h : Hp} (e : X.1 i &&& 63 = nI 14) (k : LG X i 698 h) : LSw X i h := by
  obtain ⟨h3, k⟩ := k
  exact ⟨h3, g_tswc (14) (14) (665) 698 dL_law_33 (by decide) (by decide) (by decide) rfl (by decide) (fun _ => k) (fun n _ => absurd (e.trans (by decide)) n)⟩
theorem law_c15 {X : Sc} {i : Nat} {h : Hp} (e : X.1 i &&& 63 = nI 15) (k : LG X i 731 h) : LSw X i h := by
  obtain ⟨h3, k⟩ := k
  exact ⟨h3, g_tswc (15) (15) (698) 731 dL_law_33 (by decide) (by decide) (by decide) rfl (by decide) (fun _ => k) (fun n _ => absurd (e.trans (by decide)) n)⟩
theorem law_c16 {X : Sc} {i : Nat} {h : Hp} (e : X.1 i &&& 63 = nI 16) (k : LG X i 764 h) : LSw X i h := by
  obtain ⟨h3, k⟩ := k
  exact ⟨h3, g_tswc (16) (16) (731) 764 dL_law_33 (by decide) (by decide) (by decide) rfl (by decide) (fun _ => k) (fun n _ => absurd (e.trans (by decide)) n)⟩
theorem law_c17 {X : Sc} {i : Nat} {h : Hp} (e : X.1 i &&& 63 = nI 17) (k : LG X i 797 h) : LSw X i h := by
  obtain ⟨h3, k⟩ := k
  exact ⟨h3, g_tswc (17) (17) (764) 797 dL_law_33 (by decide) (by decide) (by decide) rfl (by decide) (fun _ => k) (fun n _ => absurd (e.trans (by decide)) n)⟩
theorem law_c18 {X : Sc} {i : Nat} {h : Hp} (e : X.1 i &&& 63 = nI 18) (k : LG X i 830 h) : LSw X i h := by
  obtain ⟨h3, k⟩ := k
  exact ⟨h3, g_tswc (18) (18) (797) 830 dL_law_33 (by decide) (by decide) (by decide) rfl (by decide) (fun _ => k) (fun n _ => absurd (e.trans (by decide)) n)⟩
theorem law_c19 {X : Sc} {i : Nat} {h : Hp} (e : X.1 i &&& 63 = nI 19) (k : LG X i 863 h) : LSw X i h := by
  obtain ⟨h3, k⟩ := k
  exact ⟨h3, g_tswc (19) (19) (830) 863 dL_law_33 (by decide) (by decide) (by decide) rfl (by decide) (fun _ => k) (fun n _ => absurd (e.trans (by decide)) n)⟩
theorem law_c20 {X : Sc} {i : Nat} {h : Hp} (e : X.1 i &&& 63 = nI 20) (k : LG X i 906 h) : LSw X i h := by
  obtain ⟨h3, k⟩ := k
  exact ⟨h3, g_tswc (20) (20) (873) 906 dL_law_33 (by decide) (by decide) (by decide) rfl (by decide) (fun _ => k) (fun n _ => absurd (e.trans (by decide)) n)⟩
theorem law_c21 {X : Sc} {i : Nat} {h : Hp} (e : X.1 i &&& 63 = nI 21) (k : LG X i 939 h) : LSw X i h := by
  obtain ⟨h3, k⟩ := k
  exact ⟨h3, g_tswc (21) (21) (906) 939 dL_law_33 (by decide) (by decide) (by decide) rfl (by decide) (fun _ => k) (fun n _ => absurd (e.trans (by decide)) n)⟩
theorem law_c22 {X : Sc} {i : Nat} {h : Hp} (e : X.1 i &&& 63 = nI 22) (k : LG X i 982 h) : LSw X i h := by
  obtain ⟨h3, k⟩ := k
  exact ⟨h3, g_tswc (22) (22) (949) 982 dL_law_33 (by decide) (by decide) (by decide) rfl (by decide) (fun _ => k) (fun n _ => absurd (e.trans (by decide)) n)⟩
theorem law_c23 {X : Sc} {i : Nat} {h : Hp} (e : X.1 i &&& 63 = nI 23) (k : LG X i 1015 h) : LSw X i h := by
  obtain ⟨h3, k⟩ := k
  exact ⟨h3, g_tswc (23) (23) (982) 1015 dL_law_33 (by decide) (by decide) (by decide) rfl (by decide) (fun _ => k) (fun n _ => absurd (e.trans (by decide)) n)⟩
theorem law_c24 {X : Sc} {i : Nat} {h : Hp} (e : X.1 i &&& 63 = nI 24) (k : LG X i 1058 h) : LSw X i h := by
  obtain ⟨h3, k⟩ := k
  exact ⟨h3, g_tswc (24) (24) (1025) 1058 dL_law_33 (by decide) (by decide) (by decide) rfl (by decide) (fun _ => k) (fun n _ => absurd (e.trans (by decide)) n)⟩
theorem law_c25 {X : Sc} {i : Nat} {h : Hp} (e : X.1 i &&& 63 = nI 25) (k : LG X i 1081 h) : LSw X i h := by
  obtain ⟨h3, k⟩ := k
  exact ⟨h3, g_tswc (25) (25) (1048) 1081 dL_law_33 (by decide) (by decide) (by decide) rfl (by decide) (fun _ => k) (fun n _ => absurd (e.trans (by decide)) n)⟩
theorem law_c26 {X : Sc} {i : Nat} {h : Hp} (e : X.1 i &&& 63 = nI 26) (k : LG X i 1135 h) : LSw X i h := by
  obtain ⟨h3, k⟩ := k
  exact ⟨h3, g_tswc (26) (26) (1102) 1135 dL_law_33 (by decide) (by decide) (by decide) rfl (by decide) (fun _ => k) (fun n _ => absurd (e.trans (by decide)) n)⟩
theorem law_c27 {X : Sc} {i : Nat} {h : Hp} (e : X.1 i &&& 63 = nI 27) (k : LG X i 1158 h) : LSw X i h := by
  obtain ⟨h3, k⟩ := k
  exact ⟨h3, g_tswc (27) (27) (1125) 1158 dL_law_33 (by decide) (by decide) (by decide) rfl (by decide) (fun _ => k) (fun n _ => absurd (e.trans (by decide)) n)⟩
theorem law_c28 {X : Sc} {i : Nat} {h : Hp} (e : X.1 i &&& 63 = nI 28) (k : LG X i 1191 h) : LSw X i h := by
  obtain ⟨h3, k⟩ := k
  exact ⟨h3, g_tswc (28) (28) (1158) 1191 dL_law_33 (by decide) (by decide) (by decide) rfl (by decide) (fun _ => k) (fun n _ => absurd (e.trans (by decide)) n)⟩
theorem law_c29 {X : Sc} {i : Nat} {h : Hp} (e : X.1 i &&& 63 = nI 29) (k : LG X i 1204 h) : LSw X i h := by
  obtain ⟨h3, k⟩ := k
  exact ⟨h3, g_tswc (29) (29) (1171) 1204 dL_law_33 (by decide) (by decide) (by decide) rfl (by decide) (fun _ => k) (fun n _ => absurd (e.trans (by decide)) n)⟩
theorem law_c30 {X : Sc} {i : Nat} {h : Hp} (e : X.1 i &&& 63 = nI 30) (k : LG X i 1217 h) : LSw X i h := by
  obtain ⟨h3, k⟩ := k
  exact ⟨h3, g_tswc (30) (30) (1184) 1217 dL_law_33 (by decide) (by decide) (by decide) rfl (by decide) (fun _ => k) (fun n _ => absurd (e.trans (by decide)) n)⟩
theorem law_c31 {X : Sc} {i : Nat} {h : Hp} (e : X.1 i &&& 63 = nI 31) (k : LG X i 1250 h) : LSw X i h := by
  obtain ⟨h3, k⟩ := k
  exact ⟨h3, g_tswc (31) (31) (1217) 1250 dL_law_33 (by decide) (by decide) (by decide) rfl (by decide) (fun _ => k) (fun n _ => absurd (e.trans (by decide)) n)⟩
theorem law_c32 {X : Sc} {i : Nat} {h : Hp} (e : X.1 i &&& 63 = nI 32) (k : LG X i 1283 h) : LSw X i h := by
  obtain ⟨h3, k⟩ := k
  exact ⟨h3, g_tswc (32) (32) (1250) 1283 dL_law_33 (by decide) (by decide) (by decide) rfl (by decide) (fun _ => k) (fun n _ => absurd (e.trans (by decide)) n)⟩
theorem law_c33 {X : Sc} {i : Nat} {h : Hp} (e : X.1 i &&& 63 = nI 33) (k : LG X i 1326 h) : LSw X i h := by
  obtain ⟨h3, k⟩ := k
  exact ⟨h3, g_tswc (33) (33) (1293) 1326 dL_law_33 (by decide) (by decide) (by decide) rfl (by decide) (fun _ => k) (fun n _ => absurd (e.trans (by decide)) n)⟩
theorem law_c34 {X : Sc} {i : Nat} {h : Hp} (e : X.1 i &&& 63 = nI 34) (k : LG X i 1369 h) : LSw X i h := by
  obtain ⟨h3, k⟩ := k
  exact ⟨h3, g_tswc (34) (34) (1336) 1369 dL_law_33 (by decide) (by decide) (by decide) rfl (by decide) (fun _ => k) (fun n _ => absurd (e.trans (by decide)) n)⟩
theorem law_c35 {X : Sc} {i : Nat} {h : Hp} (e : X.1 i &&& 63 = nI 35) (k : LG X i 1432 h) : LSw X i h := by
  obtain ⟨h3, k⟩ := k
  exact ⟨h3, g_tswc (35) (35) (1399) 1432 dL_law_33 (by decide) (by decide) (by decide) rfl (by decide) (fun _ => k) (fun n _ => absurd (e.trans (by decide)) n)⟩
theorem law_c36 {X : Sc} {i : Nat} {h : Hp} (e : X.1 i &&& 63 = nI 36) (k : LG X i 1455 h) : LSw X i h := by
  obtain ⟨h3, k⟩ := k
  exact ⟨h3, g_tswc (36) (36) (1422) 1455 dL_law_33 (by decide) (by decide) (by decide) rfl (by decide) (fun _ => k) (fun n _ => absurd (e.trans (by decide)) n)⟩
theorem law_c37 {X : Sc} {i : Nat} {h : Hp} (e : X.1 i &&& 63 = nI 37) (k : LG X i 1478 h) : LSw X i h := by
  obtain ⟨h3, k⟩ := k
  exact ⟨h3, g_tswc (37) (37) (1445) 1478 dL_law_33 (by decide) (by decide) (by decide) rfl (by decide) (fun _ => k) (fun n _ => absurd (e.trans (by decide)) n)⟩
theorem law_c38 {X : Sc} {i : Nat} {h : Hp} (e : X.1 i &&& 63 = nI 38) (k : LG X i 1491 h) : LSw X i h := by
  obtain ⟨h3, k⟩ := k
  exact ⟨h3, g_tswc (38) (38) (1458) 1491 dL_law_33 (by decide) (by decide) (by decide) rfl (by decide) (fun _ => k) (fun n _ => absurd (e.trans (by decide)) n)⟩
theorem law_c39 {X : Sc} {i : Nat} {h : Hp} (e : X.1 i &&& 63 = nI 39) (k : LG X i 1504 h) : LSw X i h := by
  obtain ⟨h3, k⟩ := k
  exact ⟨h3, g_tswc (39) (39) (1471) 1504 dL_law_33 (by decide) (by decide) (by decide) rfl (by decide) (fun _ => k) (fun n _ => absurd (e.trans (by decide)) n)⟩
theorem law_c40 {X : Sc} {i : Nat} {h : Hp} (e : X.1 i &&& 63 = nI 40) (k : LG X i 1517 h) : LSw X i h := by
  obtain ⟨h3, k⟩ := k
  exact ⟨h3, g_tswc (40) (40) (1484) 1517 dL_law_33 (by decide) (by decide) (by decide) rfl (by decide) (fun _ => k) (fun n _ => absurd (e.trans (by decide)) n)⟩
theorem law_c41 {X : Sc} {i : Nat} {h : Hp} (e : X.1 i &&& 63 = nI 41) (k : LG X i 1540 h) : LSw X i h := by
  obtain ⟨h3, k⟩ := k
  exact ⟨h3, g_tswc (41) (41) (1507) 1540 dL_law_33 (by decide) (by decide) (by decide) rfl (by decide) (fun _ => k) (fun n _ => absurd (e.trans (by decide)) n)⟩
theorem law_sw {X : Sc} {i : Nat} {h : Hp} (hi : i + 6 ≤ X.2) (hX : X.2 < 2 ^ 31) (R : Rel h) (K : ∀ h2, Rel h2 → LG X i 1563 h2) : ∀ j, j < 64 → X.1 i &&& 63 = nI j → LSw X i h
  | 0, _, e => law_c0 e (law_list hi hX R K)
  | 1, _, e => law_c1 e (law_listed hi hX R K)
  | 2, _, e => law_c2 e (law_dish hi hX R K)
  | 3, _, e => law_c3 e (law_guest hi hX R K)
  | 4, _, e => law_c4 e (law_of hi hX R K)
  | 5, _, e => law_c5 e (law_change hi hX R K)
  | 6, _, e => law_c6 e (law_ofGuest hi hX R K)
  | 7, _, e => law_c7 e (law_seat hi hX R K)
  | 8, _, e => law_c8 e (law_would hi hX R K)
  | 9, _, e => law_c9 e (law_eat hi hX R K)
  | 10, _, e => law_c10 e (law_go hi hX R K)
  | 11, _, e => law_c11 e (law_now hi hX R K)
  | 12, _, e => law_c12 e (law_ahead hi hX R K)
  | 13, _, e => law_c13 e (law_served hi hX R K)
  | 14, _, e => law_c14 e (law_when hi hX R K)
  | 15, _, e => law_c15 e (law_owes hi hX R K)
  | 16, _, e => law_c16 e (law_part hi hX R K)
  | 17, _, e => law_c17 e (law_dishFor hi hX R K)
  | 18, _, e => law_c18 e (law_kindFor hi hX R K)
  | 19, _, e => law_c19 e (law_bentFor hi hX R K)
  | 20, _, e => law_c20 e (law_courses hi hX R K)
  | 21, _, e => law_c21 e (law_strike hi hX R K)
  | 22, _, e => law_c22 e (law_fits hi hX R K)
  | 23, _, e => law_c23 e (law_kinds hi hX R K)
  | 24, _, e => law_c24 e (law_coach hi hX R K)
  | 25, _, e => law_c25 e (law_odds hi hX R K)
  | 26, _, e => law_c26 e (law_seed hi hX R K)
  | 27, _, e => law_c27 e (law_feed hi hX R K)
  | 28, _, e => law_c28 e (law_wipe hi hX R K)
  | 29, _, e => law_c29 e (law_text hi hX R K)
  | 30, _, e => law_c30 e (law_hold hi hX R K)
  | 31, _, e => law_c31 e (law_as hi hX R K)
  | 32, _, e => law_c32 e (law_sheet hi hX R K)
  | 33, _, e => law_c33 e (law_write hi hX R K)
  | 34, _, e => law_c34 e (law_copy hi hX R K)
  | 35, _, e => law_c35 e (law_load hi hX R K)
  | 36, _, e => law_c36 e (law_judge hi hX R K)
  | 37, _, e => law_c37 e (law_image hi hX R K)
  | 38, _, e => law_c38 e (law_undo hi hX R K)
  | 39, _, e => law_c39 e (law_tear hi hX R K)
  | 40, _, e => law_c40 e (law_count hi hX R K)
  | 41, _, e => law_c41 e (law_status hi hX R K)
  | j + 42, hj, e => law_no (by omega) hj e (K h R)
theorem law_loop {X : Sc} (hX : X.2 ≤ 3072) : ∀ (n i : Nat) (h : Hp), X.2 < i + n → i ≤ X.2 → Rel h → LG X i 18 h
  | 0, i, h, a, b, _ => by omega
  | n + 1, i, h, a, b, R => by
    by_cases z : i + 6 ≤ X.2
    · obtain ⟨j, hj, e⟩ := pk_andE (X.1 i) (m := 63) 6 (by decide)
      exact law_hd hX z (law_sw z (by omega) R (fun h2 R2 => law_next (law_loop hX n (i + 6) h2 (by omega) z R2)) j hj e)
    · exact law_end hX b (by omega)

