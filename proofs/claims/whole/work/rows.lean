section
-- ===== PART A: goes FIRST, ahead of the names: the tables' words, and 'selects' of the private methods out of them =====
/-- a private method of a class that the tables say can be made, by its rows of tables_1 -/
def lw_okq (q : MethodName × Nat) : Prop := (q.1.cls ≠ "java/lang/invoke/MethodHandle" ∧ q.1.cls ≠ "java/lang/invoke/VarHandle") ∧ Cond.instantiable q.1.cls q.2 ∈ tables_1 ∧ Cond.privateMethod q.1 ∈ tables_1 ∧ Cond.instanceMethod q.1 ∈ tables_1
theorem lw_p0 : lw_okq (⟨"ForkInn", "found", "(I)I"⟩, 7) := ⟨⟨by decide +kernel, by decide +kernel⟩, List.mem_of_getElem? (i := 14) (by decide +kernel), List.mem_of_getElem? (i := 142) (by decide +kernel), List.mem_of_getElem? (i := 143) (by decide +kernel)⟩
theorem lw_p1 : lw_okq (⟨"ForkInn", "leadsTo", "(III)Z"⟩, 7) := ⟨⟨by decide +kernel, by decide +kernel⟩, List.mem_of_getElem? (i := 14) (by decide +kernel), List.mem_of_getElem? (i := 388) (by decide +kernel), List.mem_of_getElem? (i := 389) (by decide +kernel)⟩
theorem lw_p2 : lw_okq (⟨"ForkInn", "leadsToBy", "(IIII)Z"⟩, 7) := ⟨⟨by decide +kernel, by decide +kernel⟩, List.mem_of_getElem? (i := 14) (by decide +kernel), List.mem_of_getElem? (i := 392) (by decide +kernel), List.mem_of_getElem? (i := 393) (by decide +kernel)⟩
theorem lw_p3 : lw_okq (⟨"ForkInn", "keepsAway", "(IIII)Z"⟩, 7) := ⟨⟨by decide +kernel, by decide +kernel⟩, List.mem_of_getElem? (i := 14) (by decide +kernel), List.mem_of_getElem? (i := 408) (by decide +kernel), List.mem_of_getElem? (i := 409) (by decide +kernel)⟩
theorem lw_p4 : lw_okq (⟨"ForkInn", "sheetTrouble", "(I)I"⟩, 7) := ⟨⟨by decide +kernel, by decide +kernel⟩, List.mem_of_getElem? (i := 14) (by decide +kernel), List.mem_of_getElem? (i := 416) (by decide +kernel), List.mem_of_getElem? (i := 417) (by decide +kernel)⟩
theorem lw_p5 : lw_okq (⟨"ForkInn", "goesAsTold", "(LForkInn$Sheet;I)Z"⟩, 7) := ⟨⟨by decide +kernel, by decide +kernel⟩, List.mem_of_getElem? (i := 14) (by decide +kernel), List.mem_of_getElem? (i := 428) (by decide +kernel), List.mem_of_getElem? (i := 429) (by decide +kernel)⟩
theorem lw_p6 : lw_okq (⟨"ForkInnModel", "becomes", "(II)I"⟩, 15) := ⟨⟨by decide +kernel, by decide +kernel⟩, List.mem_of_getElem? (i := 659) (by decide +kernel), List.mem_of_getElem? (i := 721) (by decide +kernel), List.mem_of_getElem? (i := 722) (by decide +kernel)⟩
theorem lw_p7 : lw_okq (⟨"ForkInnModel", "finds", "(I)I"⟩, 15) := ⟨⟨by decide +kernel, by decide +kernel⟩, List.mem_of_getElem? (i := 659) (by decide +kernel), List.mem_of_getElem? (i := 726) (by decide +kernel), List.mem_of_getElem? (i := 727) (by decide +kernel)⟩
theorem lw_p8 : lw_okq (⟨"ForkInnModel", "comes", "(III)I"⟩, 15) := ⟨⟨by decide +kernel, by decide +kernel⟩, List.mem_of_getElem? (i := 659) (by decide +kernel), List.mem_of_getElem? (i := 742) (by decide +kernel), List.mem_of_getElem? (i := 743) (by decide +kernel)⟩
theorem lw_p9 : lw_okq (⟨"ForkInnModel", "put", "(III)V"⟩, 15) := ⟨⟨by decide +kernel, by decide +kernel⟩, List.mem_of_getElem? (i := 659) (by decide +kernel), List.mem_of_getElem? (i := 746) (by decide +kernel), List.mem_of_getElem? (i := 747) (by decide +kernel)⟩
theorem lw_p10 : lw_okq (⟨"ForkInnModel", "enters", "(II)I"⟩, 15) := ⟨⟨by decide +kernel, by decide +kernel⟩, List.mem_of_getElem? (i := 659) (by decide +kernel), List.mem_of_getElem? (i := 754) (by decide +kernel), List.mem_of_getElem? (i := 755) (by decide +kernel)⟩
theorem lw_p11 : lw_okq (⟨"ForkInnModel", "lets", "(III)V"⟩, 15) := ⟨⟨by decide +kernel, by decide +kernel⟩, List.mem_of_getElem? (i := 659) (by decide +kernel), List.mem_of_getElem? (i := 758) (by decide +kernel), List.mem_of_getElem? (i := 759) (by decide +kernel)⟩
theorem lw_p12 : lw_okq (⟨"ForkInnModel", "isDish", "(I)Z"⟩, 15) := ⟨⟨by decide +kernel, by decide +kernel⟩, List.mem_of_getElem? (i := 659) (by decide +kernel), List.mem_of_getElem? (i := 766) (by decide +kernel), List.mem_of_getElem? (i := 767) (by decide +kernel)⟩
theorem lw_p13 : lw_okq (⟨"ForkInnModel", "it", "(II)I"⟩, 15) := ⟨⟨by decide +kernel, by decide +kernel⟩, List.mem_of_getElem? (i := 659) (by decide +kernel), List.mem_of_getElem? (i := 770) (by decide +kernel), List.mem_of_getElem? (i := 771) (by decide +kernel)⟩
theorem lw_p14 : lw_okq (⟨"ForkInnModel", "isGuest", "(I)Z"⟩, 15) := ⟨⟨by decide +kernel, by decide +kernel⟩, List.mem_of_getElem? (i := 659) (by decide +kernel), List.mem_of_getElem? (i := 785) (by decide +kernel), List.mem_of_getElem? (i := 786) (by decide +kernel)⟩
theorem lw_p15 : lw_okq (⟨"ForkInnModel", "his", "(II)I"⟩, 15) := ⟨⟨by decide +kernel, by decide +kernel⟩, List.mem_of_getElem? (i := 659) (by decide +kernel), List.mem_of_getElem? (i := 789) (by decide +kernel), List.mem_of_getElem? (i := 790) (by decide +kernel)⟩
def lw_privs_1 : List (MethodName × Nat) := [(⟨"ForkInn", "found", "(I)I"⟩, 7), (⟨"ForkInn", "leadsTo", "(III)Z"⟩, 7), (⟨"ForkInn", "leadsToBy", "(IIII)Z"⟩, 7), (⟨"ForkInn", "keepsAway", "(IIII)Z"⟩, 7), (⟨"ForkInn", "sheetTrouble", "(I)I"⟩, 7), (⟨"ForkInn", "goesAsTold", "(LForkInn$Sheet;I)Z"⟩, 7), (⟨"ForkInnModel", "becomes", "(II)I"⟩, 15), (⟨"ForkInnModel", "finds", "(I)I"⟩, 15), (⟨"ForkInnModel", "comes", "(III)I"⟩, 15), (⟨"ForkInnModel", "put", "(III)V"⟩, 15), (⟨"ForkInnModel", "enters", "(II)I"⟩, 15), (⟨"ForkInnModel", "lets", "(III)V"⟩, 15), (⟨"ForkInnModel", "isDish", "(I)Z"⟩, 15), (⟨"ForkInnModel", "it", "(II)I"⟩, 15), (⟨"ForkInnModel", "isGuest", "(I)Z"⟩, 15), (⟨"ForkInnModel", "his", "(II)I"⟩, 15)]
theorem lw_r1 : ∀ q ∈ lw_privs_1, lw_okq q := List.forall_mem_cons.mpr ⟨lw_p0, List.forall_mem_cons.mpr ⟨lw_p1, List.forall_mem_cons.mpr ⟨lw_p2, List.forall_mem_cons.mpr ⟨lw_p3, List.forall_mem_cons.mpr ⟨lw_p4, List.forall_mem_cons.mpr ⟨lw_p5, List.forall_mem_cons.mpr ⟨lw_p6, List.forall_mem_cons.mpr ⟨lw_p7, List.forall_mem_cons.mpr ⟨lw_p8, List.forall_mem_cons.mpr ⟨lw_p9, List.forall_mem_cons.mpr ⟨lw_p10, List.forall_mem_cons.mpr ⟨lw_p11, List.forall_mem_cons.mpr ⟨lw_p12, List.forall_mem_cons.mpr ⟨lw_p13, List.forall_mem_cons.mpr ⟨lw_p14, List.forall_mem_cons.mpr ⟨lw_p15, fun _ h => absurd h List.not_mem_nil⟩⟩⟩⟩⟩⟩⟩⟩⟩⟩⟩⟩⟩⟩⟩⟩
theorem lw_p16 : lw_okq (⟨"ForkInnModel", "isLeft", "(II)Z"⟩, 15) := ⟨⟨by decide +kernel, by decide +kernel⟩, List.mem_of_getElem? (i := 659) (by decide +kernel), List.mem_of_getElem? (i := 805) (by decide +kernel), List.mem_of_getElem? (i := 806) (by decide +kernel)⟩
theorem lw_p17 : lw_okq (⟨"ForkInnModel", "isAnotherFor", "(II)Z"⟩, 15) := ⟨⟨by decide +kernel, by decide +kernel⟩, List.mem_of_getElem? (i := 659) (by decide +kernel), List.mem_of_getElem? (i := 809) (by decide +kernel), List.mem_of_getElem? (i := 810) (by decide +kernel)⟩
theorem lw_p18 : lw_okq (⟨"ForkInnModel", "costs", "(IIZ)I"⟩, 15) := ⟨⟨by decide +kernel, by decide +kernel⟩, List.mem_of_getElem? (i := 659) (by decide +kernel), List.mem_of_getElem? (i := 813) (by decide +kernel), List.mem_of_getElem? (i := 814) (by decide +kernel)⟩
theorem lw_p19 : lw_okq (⟨"ForkInnModel", "bends", "(IZ)I"⟩, 15) := ⟨⟨by decide +kernel, by decide +kernel⟩, List.mem_of_getElem? (i := 659) (by decide +kernel), List.mem_of_getElem? (i := 817) (by decide +kernel), List.mem_of_getElem? (i := 818) (by decide +kernel)⟩
theorem lw_p20 : lw_okq (⟨"ForkInnModel", "eats", "(II)I"⟩, 15) := ⟨⟨by decide +kernel, by decide +kernel⟩, List.mem_of_getElem? (i := 659) (by decide +kernel), List.mem_of_getElem? (i := 826) (by decide +kernel), List.mem_of_getElem? (i := 827) (by decide +kernel)⟩
theorem lw_p21 : lw_okq (⟨"ForkInnModel", "goesFor", "(I)V"⟩, 15) := ⟨⟨by decide +kernel, by decide +kernel⟩, List.mem_of_getElem? (i := 659) (by decide +kernel), List.mem_of_getElem? (i := 837) (by decide +kernel), List.mem_of_getElem? (i := 838) (by decide +kernel)⟩
theorem lw_p22 : lw_okq (⟨"ForkInnModel", "goes", "()V"⟩, 15) := ⟨⟨by decide +kernel, by decide +kernel⟩, List.mem_of_getElem? (i := 659) (by decide +kernel), List.mem_of_getElem? (i := 841) (by decide +kernel), List.mem_of_getElem? (i := 842) (by decide +kernel)⟩
theorem lw_p23 : lw_okq (⟨"ForkInnModel", "bills", "()I"⟩, 15) := ⟨⟨by decide +kernel, by decide +kernel⟩, List.mem_of_getElem? (i := 659) (by decide +kernel), List.mem_of_getElem? (i := 845) (by decide +kernel), List.mem_of_getElem? (i := 846) (by decide +kernel)⟩
theorem lw_p24 : lw_okq (⟨"ForkInnModel", "aims", "()I"⟩, 15) := ⟨⟨by decide +kernel, by decide +kernel⟩, List.mem_of_getElem? (i := 659) (by decide +kernel), List.mem_of_getElem? (i := 853) (by decide +kernel), List.mem_of_getElem? (i := 854) (by decide +kernel)⟩
theorem lw_p25 : lw_okq (⟨"ForkInnModel", "allBeen", "()I"⟩, 15) := ⟨⟨by decide +kernel, by decide +kernel⟩, List.mem_of_getElem? (i := 659) (by decide +kernel), List.mem_of_getElem? (i := 857) (by decide +kernel), List.mem_of_getElem? (i := 858) (by decide +kernel)⟩
theorem lw_p26 : lw_okq (⟨"ForkInnModel", "allServed", "()I"⟩, 15) := ⟨⟨by decide +kernel, by decide +kernel⟩, List.mem_of_getElem? (i := 659) (by decide +kernel), List.mem_of_getElem? (i := 861) (by decide +kernel), List.mem_of_getElem? (i := 862) (by decide +kernel)⟩
theorem lw_p27 : lw_okq (⟨"ForkInnModel", "pairsApart", "()I"⟩, 15) := ⟨⟨by decide +kernel, by decide +kernel⟩, List.mem_of_getElem? (i := 659) (by decide +kernel), List.mem_of_getElem? (i := 865) (by decide +kernel), List.mem_of_getElem? (i := 866) (by decide +kernel)⟩
theorem lw_p28 : lw_okq (⟨"ForkInnModel", "onCard", "()I"⟩, 15) := ⟨⟨by decide +kernel, by decide +kernel⟩, List.mem_of_getElem? (i := 659) (by decide +kernel), List.mem_of_getElem? (i := 869) (by decide +kernel), List.mem_of_getElem? (i := 870) (by decide +kernel)⟩
theorem lw_p29 : lw_okq (⟨"ForkInnModel", "debtor", "()I"⟩, 15) := ⟨⟨by decide +kernel, by decide +kernel⟩, List.mem_of_getElem? (i := 659) (by decide +kernel), List.mem_of_getElem? (i := 873) (by decide +kernel), List.mem_of_getElem? (i := 874) (by decide +kernel)⟩
theorem lw_p30 : lw_okq (⟨"ForkInnModel", "behind", "(II)I"⟩, 15) := ⟨⟨by decide +kernel, by decide +kernel⟩, List.mem_of_getElem? (i := 659) (by decide +kernel), List.mem_of_getElem? (i := 881) (by decide +kernel), List.mem_of_getElem? (i := 882) (by decide +kernel)⟩
theorem lw_p31 : lw_okq (⟨"ForkInnModel", "thinks", "()V"⟩, 15) := ⟨⟨by decide +kernel, by decide +kernel⟩, List.mem_of_getElem? (i := 659) (by decide +kernel), List.mem_of_getElem? (i := 885) (by decide +kernel), List.mem_of_getElem? (i := 886) (by decide +kernel)⟩
def lw_privs_2 : List (MethodName × Nat) := [(⟨"ForkInnModel", "isLeft", "(II)Z"⟩, 15), (⟨"ForkInnModel", "isAnotherFor", "(II)Z"⟩, 15), (⟨"ForkInnModel", "costs", "(IIZ)I"⟩, 15), (⟨"ForkInnModel", "bends", "(IZ)I"⟩, 15), (⟨"ForkInnModel", "eats", "(II)I"⟩, 15), (⟨"ForkInnModel", "goesFor", "(I)V"⟩, 15), (⟨"ForkInnModel", "goes", "()V"⟩, 15), (⟨"ForkInnModel", "bills", "()I"⟩, 15), (⟨"ForkInnModel", "aims", "()I"⟩, 15), (⟨"ForkInnModel", "allBeen", "()I"⟩, 15), (⟨"ForkInnModel", "allServed", "()I"⟩, 15), (⟨"ForkInnModel", "pairsApart", "()I"⟩, 15), (⟨"ForkInnModel", "onCard", "()I"⟩, 15), (⟨"ForkInnModel", "debtor", "()I"⟩, 15), (⟨"ForkInnModel", "behind", "(II)I"⟩, 15), (⟨"ForkInnModel", "thinks", "()V"⟩, 15)]
theorem lw_r2 : ∀ q ∈ lw_privs_2, lw_okq q := List.forall_mem_cons.mpr ⟨lw_p16, List.forall_mem_cons.mpr ⟨lw_p17, List.forall_mem_cons.mpr ⟨lw_p18, List.forall_mem_cons.mpr ⟨lw_p19, List.forall_mem_cons.mpr ⟨lw_p20, List.forall_mem_cons.mpr ⟨lw_p21, List.forall_mem_cons.mpr ⟨lw_p22, List.forall_mem_cons.mpr ⟨lw_p23, List.forall_mem_cons.mpr ⟨lw_p24, List.forall_mem_cons.mpr ⟨lw_p25, List.forall_mem_cons.mpr ⟨lw_p26, List.forall_mem_cons.mpr ⟨lw_p27, List.forall_mem_cons.mpr ⟨lw_p28, List.forall_mem_cons.mpr ⟨lw_p29, List.forall_mem_cons.mpr ⟨lw_p30, List.forall_mem_cons.mpr ⟨lw_p31, fun _ h => absurd h List.not_mem_nil⟩⟩⟩⟩⟩⟩⟩⟩⟩⟩⟩⟩⟩⟩⟩⟩
theorem lw_p32 : lw_okq (⟨"ForkInnModel", "putsBack", "()V"⟩, 15) := ⟨⟨by decide +kernel, by decide +kernel⟩, List.mem_of_getElem? (i := 659) (by decide +kernel), List.mem_of_getElem? (i := 892) (by decide +kernel), List.mem_of_getElem? (i := 893) (by decide +kernel)⟩
theorem lw_p33 : lw_okq (⟨"ForkInnModel", "leastBy", "(IIII)I"⟩, 15) := ⟨⟨by decide +kernel, by decide +kernel⟩, List.mem_of_getElem? (i := 659) (by decide +kernel), List.mem_of_getElem? (i := 917) (by decide +kernel), List.mem_of_getElem? (i := 918) (by decide +kernel)⟩
theorem lw_p34 : lw_okq (⟨"ForkInnModel", "orNone", "(I)I"⟩, 15) := ⟨⟨by decide +kernel, by decide +kernel⟩, List.mem_of_getElem? (i := 659) (by decide +kernel), List.mem_of_getElem? (i := 929) (by decide +kernel), List.mem_of_getElem? (i := 930) (by decide +kernel)⟩
theorem lw_p35 : lw_okq (⟨"ForkInnModel", "doBring", "(IIII)Z"⟩, 15) := ⟨⟨by decide +kernel, by decide +kernel⟩, List.mem_of_getElem? (i := 659) (by decide +kernel), List.mem_of_getElem? (i := 937) (by decide +kernel), List.mem_of_getElem? (i := 938) (by decide +kernel)⟩
theorem lw_p36 : lw_okq (⟨"ForkInnModel", "isElsewhere", "(IIII)Z"⟩, 15) := ⟨⟨by decide +kernel, by decide +kernel⟩, List.mem_of_getElem? (i := 659) (by decide +kernel), List.mem_of_getElem? (i := 948) (by decide +kernel), List.mem_of_getElem? (i := 949) (by decide +kernel)⟩
theorem lw_p37 : lw_okq (⟨"ForkInnModel", "notThere", "(I)I"⟩, 15) := ⟨⟨by decide +kernel, by decide +kernel⟩, List.mem_of_getElem? (i := 659) (by decide +kernel), List.mem_of_getElem? (i := 956) (by decide +kernel), List.mem_of_getElem? (i := 957) (by decide +kernel)⟩
theorem lw_p38 : lw_okq (⟨"ForkInnModel", "isTold", "(II)Z"⟩, 15) := ⟨⟨by decide +kernel, by decide +kernel⟩, List.mem_of_getElem? (i := 659) (by decide +kernel), List.mem_of_getElem? (i := 964) (by decide +kernel), List.mem_of_getElem? (i := 965) (by decide +kernel)⟩
theorem lw_p39 : lw_okq (⟨"ForkInnModel", "draw", "()I"⟩, 15) := ⟨⟨by decide +kernel, by decide +kernel⟩, List.mem_of_getElem? (i := 659) (by decide +kernel), List.mem_of_getElem? (i := 976) (by decide +kernel), List.mem_of_getElem? (i := 977) (by decide +kernel)⟩
theorem lw_p40 : lw_okq (⟨"ForkInnModel", "reads", "()V"⟩, 15) := ⟨⟨by decide +kernel, by decide +kernel⟩, List.mem_of_getElem? (i := 659) (by decide +kernel), List.mem_of_getElem? (i := 1001) (by decide +kernel), List.mem_of_getElem? (i := 1002) (by decide +kernel)⟩
theorem lw_p41 : lw_okq (⟨"ForkInnModel", "isByte", "(III)Z"⟩, 15) := ⟨⟨by decide +kernel, by decide +kernel⟩, List.mem_of_getElem? (i := 659) (by decide +kernel), List.mem_of_getElem? (i := 1005) (by decide +kernel), List.mem_of_getElem? (i := 1006) (by decide +kernel)⟩
theorem lw_p42 : lw_okq (⟨"ForkInnModel", "wordHere", "()I"⟩, 15) := ⟨⟨by decide +kernel, by decide +kernel⟩, List.mem_of_getElem? (i := 659) (by decide +kernel), List.mem_of_getElem? (i := 1009) (by decide +kernel), List.mem_of_getElem? (i := 1010) (by decide +kernel)⟩
theorem lw_p43 : lw_okq (⟨"ForkInnModel", "isName", "(II)Z"⟩, 15) := ⟨⟨by decide +kernel, by decide +kernel⟩, List.mem_of_getElem? (i := 659) (by decide +kernel), List.mem_of_getElem? (i := 1013) (by decide +kernel), List.mem_of_getElem? (i := 1014) (by decide +kernel)⟩
theorem lw_p44 : lw_okq (⟨"ForkInnModel", "item", "()V"⟩, 15) := ⟨⟨by decide +kernel, by decide +kernel⟩, List.mem_of_getElem? (i := 659) (by decide +kernel), List.mem_of_getElem? (i := 1019) (by decide +kernel), List.mem_of_getElem? (i := 1020) (by decide +kernel)⟩
theorem lw_p45 : lw_okq (⟨"ForkInnModel", "dishItem", "()V"⟩, 15) := ⟨⟨by decide +kernel, by decide +kernel⟩, List.mem_of_getElem? (i := 659) (by decide +kernel), List.mem_of_getElem? (i := 1023) (by decide +kernel), List.mem_of_getElem? (i := 1024) (by decide +kernel)⟩
theorem lw_p46 : lw_okq (⟨"ForkInnModel", "number", "(II)I"⟩, 15) := ⟨⟨by decide +kernel, by decide +kernel⟩, List.mem_of_getElem? (i := 659) (by decide +kernel), List.mem_of_getElem? (i := 1027) (by decide +kernel), List.mem_of_getElem? (i := 1028) (by decide +kernel)⟩
theorem lw_p47 : lw_okq (⟨"ForkInnModel", "perhaps", "(IIII)I"⟩, 15) := ⟨⟨by decide +kernel, by decide +kernel⟩, List.mem_of_getElem? (i := 659) (by decide +kernel), List.mem_of_getElem? (i := 1031) (by decide +kernel), List.mem_of_getElem? (i := 1032) (by decide +kernel)⟩
def lw_privs_3 : List (MethodName × Nat) := [(⟨"ForkInnModel", "putsBack", "()V"⟩, 15), (⟨"ForkInnModel", "leastBy", "(IIII)I"⟩, 15), (⟨"ForkInnModel", "orNone", "(I)I"⟩, 15), (⟨"ForkInnModel", "doBring", "(IIII)Z"⟩, 15), (⟨"ForkInnModel", "isElsewhere", "(IIII)Z"⟩, 15), (⟨"ForkInnModel", "notThere", "(I)I"⟩, 15), (⟨"ForkInnModel", "isTold", "(II)Z"⟩, 15), (⟨"ForkInnModel", "draw", "()I"⟩, 15), (⟨"ForkInnModel", "reads", "()V"⟩, 15), (⟨"ForkInnModel", "isByte", "(III)Z"⟩, 15), (⟨"ForkInnModel", "wordHere", "()I"⟩, 15), (⟨"ForkInnModel", "isName", "(II)Z"⟩, 15), (⟨"ForkInnModel", "item", "()V"⟩, 15), (⟨"ForkInnModel", "dishItem", "()V"⟩, 15), (⟨"ForkInnModel", "number", "(II)I"⟩, 15), (⟨"ForkInnModel", "perhaps", "(IIII)I"⟩, 15)]
theorem lw_r3 : ∀ q ∈ lw_privs_3, lw_okq q := List.forall_mem_cons.mpr ⟨lw_p32, List.forall_mem_cons.mpr ⟨lw_p33, List.forall_mem_cons.mpr ⟨lw_p34, List.forall_mem_cons.mpr ⟨lw_p35, List.forall_mem_cons.mpr ⟨lw_p36, List.forall_mem_cons.mpr ⟨lw_p37, List.forall_mem_cons.mpr ⟨lw_p38, List.forall_mem_cons.mpr ⟨lw_p39, List.forall_mem_cons.mpr ⟨lw_p40, List.forall_mem_cons.mpr ⟨lw_p41, List.forall_mem_cons.mpr ⟨lw_p42, List.forall_mem_cons.mpr ⟨lw_p43, List.forall_mem_cons.mpr ⟨lw_p44, List.forall_mem_cons.mpr ⟨lw_p45, List.forall_mem_cons.mpr ⟨lw_p46, List.forall_mem_cons.mpr ⟨lw_p47, fun _ h => absurd h List.not_mem_nil⟩⟩⟩⟩⟩⟩⟩⟩⟩⟩⟩⟩⟩⟩⟩⟩
theorem lw_p48 : lw_okq (⟨"ForkInnModel", "takes", "(I)Z"⟩, 15) := ⟨⟨by decide +kernel, by decide +kernel⟩, List.mem_of_getElem? (i := 659) (by decide +kernel), List.mem_of_getElem? (i := 1035) (by decide +kernel), List.mem_of_getElem? (i := 1036) (by decide +kernel)⟩
theorem lw_p49 : lw_okq (⟨"ForkInnModel", "guestItem", "()V"⟩, 15) := ⟨⟨by decide +kernel, by decide +kernel⟩, List.mem_of_getElem? (i := 659) (by decide +kernel), List.mem_of_getElem? (i := 1039) (by decide +kernel), List.mem_of_getElem? (i := 1040) (by decide +kernel)⟩
theorem lw_p50 : lw_okq (⟨"ForkInnModel", "mealItem", "()V"⟩, 15) := ⟨⟨by decide +kernel, by decide +kernel⟩, List.mem_of_getElem? (i := 659) (by decide +kernel), List.mem_of_getElem? (i := 1043) (by decide +kernel), List.mem_of_getElem? (i := 1044) (by decide +kernel)⟩
theorem lw_p51 : lw_okq (⟨"ForkInnModel", "notCopied", "(IIIII)I"⟩, 15) := ⟨⟨by decide +kernel, by decide +kernel⟩, List.mem_of_getElem? (i := 659) (by decide +kernel), List.mem_of_getElem? (i := 1072) (by decide +kernel), List.mem_of_getElem? (i := 1073) (by decide +kernel)⟩
theorem lw_p52 : lw_okq (⟨"ForkInnModel", "manyHeld", "()I"⟩, 15) := ⟨⟨by decide +kernel, by decide +kernel⟩, List.mem_of_getElem? (i := 659) (by decide +kernel), List.mem_of_getElem? (i := 1100) (by decide +kernel), List.mem_of_getElem? (i := 1101) (by decide +kernel)⟩
def lw_privs_4 : List (MethodName × Nat) := [(⟨"ForkInnModel", "takes", "(I)Z"⟩, 15), (⟨"ForkInnModel", "guestItem", "()V"⟩, 15), (⟨"ForkInnModel", "mealItem", "()V"⟩, 15), (⟨"ForkInnModel", "notCopied", "(IIIII)I"⟩, 15), (⟨"ForkInnModel", "manyHeld", "()I"⟩, 15)]
theorem lw_r4 : ∀ q ∈ lw_privs_4, lw_okq q := List.forall_mem_cons.mpr ⟨lw_p48, List.forall_mem_cons.mpr ⟨lw_p49, List.forall_mem_cons.mpr ⟨lw_p50, List.forall_mem_cons.mpr ⟨lw_p51, List.forall_mem_cons.mpr ⟨lw_p52, fun _ h => absurd h List.not_mem_nil⟩⟩⟩⟩⟩
def lw_privs : List (MethodName × Nat) := lw_privs_1 ++ (lw_privs_2 ++ (lw_privs_3 ++ (lw_privs_4)))
def lw_tbl : List Cond := k2_sels lw_privs ++ tables_1
theorem lw_privs_ok : ∀ q ∈ lw_privs, lw_okq q := by
  show ∀ q ∈ lw_privs_1 ++ (lw_privs_2 ++ (lw_privs_3 ++ (lw_privs_4))), lw_okq q
  exact List.forall_mem_append.mpr ⟨lw_r1, List.forall_mem_append.mpr ⟨lw_r2, List.forall_mem_append.mpr ⟨lw_r3, lw_r4⟩⟩⟩
end
section
def RX0 : String := "ForkInn$Inn"
def TX0 : u_T := fun k => match k with
  | 0 => ("ForkInn$Inn", "meals", "[I", true)
  | 1 => ("ForkInn$Inn", "dishes", "[I", true)
  | 2 => ("ForkInn$Inn", "guests", "[I", true)
  | 3 => ("ForkInn$Inn", "spots", "[I", true)
  | 4 => ("ForkInn$Inn", "dishCount", "I", false)
  | 5 => ("ForkInn$Inn", "guestCount", "I", false)
  | 6 => ("ForkInn$Inn", "day", "I", false)
  | _ => ("ForkInn$Inn", "z", "I", false)
def tyX0 : Nat → FieldType := fun k => match k with
  | 0 => .array .int
  | 1 => .array .int
  | 2 => .array .int
  | 3 => .array .int
  | 4 => .int
  | 5 => .int
  | 6 => .int
  | _ => .int
abbrev wsX00 : List Cond := u_ws RX0 TX0 8
theorem nmX0 : ∀ a, a < 8 → ∀ b, b < 8 → a ≠ b → (TX0 a).2.1 ≠ (TX0 b).2.1 := by decide +kernel
theorem tyX0_ok : ∀ k, k < 8 → parseFieldDescriptor (TX0 k).2.2.1 = some (tyX0 k) := by decide +kernel
abbrev cX0_init : ByteArray := prog_2_method_1_code
def yX0_init : MethodName := ⟨RX0, "<init>", "()V"⟩
abbrev cX0_become : ByteArray := prog_2_method_2_code
def yX0_become : MethodName := ⟨RX0, "become", "(LForkInn$Inn;)V"⟩
abbrev cX0_isDish : ByteArray := prog_2_method_3_code
def yX0_isDish : MethodName := ⟨RX0, "isDish", "(I)Z"⟩
abbrev cX0_isGuest : ByteArray := prog_2_method_4_code
def yX0_isGuest : MethodName := ⟨RX0, "isGuest", "(I)Z"⟩
abbrev cX0_dishFact : ByteArray := prog_2_method_5_code
def yX0_dishFact : MethodName := ⟨RX0, "dishFact", "(II)I"⟩
abbrev cX0_putDishFact : ByteArray := prog_2_method_6_code
def yX0_putDishFact : MethodName := ⟨RX0, "putDishFact", "(III)V"⟩
abbrev cX0_guestFact : ByteArray := prog_2_method_7_code
def yX0_guestFact : MethodName := ⟨RX0, "guestFact", "(II)I"⟩
abbrev cX0_putGuestFact : ByteArray := prog_2_method_8_code
def yX0_putGuestFact : MethodName := ⟨RX0, "putGuestFact", "(III)V"⟩
abbrev cX0_isOff : ByteArray := prog_2_method_9_code
def yX0_isOff : MethodName := ⟨RX0, "isOff", "(I)Z"⟩
abbrev cX0_addDish : ByteArray := prog_2_method_10_code
def yX0_addDish : MethodName := ⟨RX0, "addDish", "(III)I"⟩
abbrev cX0_addGuest : ByteArray := prog_2_method_11_code
def yX0_addGuest : MethodName := ⟨RX0, "addGuest", "(I)I"⟩
abbrev cX0_planMeal : ByteArray := prog_2_method_12_code
def yX0_planMeal : MethodName := ⟨RX0, "planMeal", "(III)V"⟩
abbrev cX0_guestOfMeal : ByteArray := prog_2_method_13_code
def yX0_guestOfMeal : MethodName := ⟨RX0, "guestOfMeal", "(I)I"⟩
abbrev cX0_dishOfMeal : ByteArray := prog_2_method_14_code
def yX0_dishOfMeal : MethodName := ⟨RX0, "dishOfMeal", "(I)I"⟩
abbrev cX0_isUnder : ByteArray := prog_2_method_15_code
def yX0_isUnder : MethodName := ⟨RX0, "isUnder", "(II)Z"⟩
abbrev cX0_takesLeft : ByteArray := prog_2_method_16_code
def yX0_takesLeft : MethodName := ⟨RX0, "takesLeft", "(II)Z"⟩
abbrev cX0_anotherIsFor : ByteArray := prog_2_method_17_code
def yX0_anotherIsFor : MethodName := ⟨RX0, "anotherIsFor", "(II)Z"⟩
abbrev cX0_bendOf : ByteArray := prog_2_method_18_code
def yX0_bendOf : MethodName := ⟨RX0, "bendOf", "(IZ)I"⟩
abbrev cX0_costOf : ByteArray := prog_2_method_19_code
def yX0_costOf : MethodName := ⟨RX0, "costOf", "(IIZ)I"⟩
abbrev cX0_townOf : ByteArray := prog_2_method_20_code
def yX0_townOf : MethodName := ⟨RX0, "townOf", "(IZ)I"⟩
abbrev cX0_bendGuest : ByteArray := prog_2_method_21_code
def yX0_bendGuest : MethodName := ⟨RX0, "bendGuest", "(II)V"⟩
abbrev cX0_serveOnce : ByteArray := prog_2_method_22_code
def yX0_serveOnce : MethodName := ⟨RX0, "serveOnce", "(I)V"⟩
abbrev cX0_haveMeal : ByteArray := prog_2_method_23_code
def yX0_haveMeal : MethodName := ⟨RX0, "haveMeal", "(II)V"⟩
abbrev cX0_passDay : ByteArray := prog_2_method_24_code
def yX0_passDay : MethodName := ⟨RX0, "passDay", "()V"⟩
abbrev cX0_passDays : ByteArray := prog_2_method_25_code
def yX0_passDays : MethodName := ⟨RX0, "passDays", "(I)V"⟩
abbrev cX0_drawNumber : ByteArray := prog_2_method_26_code
def yX0_drawNumber : MethodName := ⟨RX0, "drawNumber", "()I"⟩
abbrev cX0_billSum : ByteArray := prog_2_method_27_code
def yX0_billSum : MethodName := ⟨RX0, "billSum", "()I"⟩
abbrev cX0_servedSum : ByteArray := prog_2_method_28_code
def yX0_servedSum : MethodName := ⟨RX0, "servedSum", "()I"⟩
abbrev cX0_townsAimedAt : ByteArray := prog_2_method_29_code
def yX0_townsAimedAt : MethodName := ⟨RX0, "townsAimedAt", "()I"⟩
abbrev cX0_townsBeenIn : ByteArray := prog_2_method_30_code
def yX0_townsBeenIn : MethodName := ⟨RX0, "townsBeenIn", "()I"⟩
abbrev cX0_partedPairs : ByteArray := prog_2_method_31_code
def yX0_partedPairs : MethodName := ⟨RX0, "partedPairs", "()I"⟩
abbrev cX0_dishesOnCard : ByteArray := prog_2_method_32_code
def yX0_dishesOnCard : MethodName := ⟨RX0, "dishesOnCard", "()I"⟩
abbrev cX0_deepestInDebt : ByteArray := prog_2_method_33_code
def yX0_deepestInDebt : MethodName := ⟨RX0, "deepestInDebt", "()I"⟩
abbrev cX0_spotsInUse : ByteArray := prog_2_method_34_code
def yX0_spotsInUse : MethodName := ⟨RX0, "spotsInUse", "()I"⟩
def RX1 : String := "ForkInn$Sheet"
def TX1 : u_T := fun k => match k with
  | 0 => ("ForkInn$Sheet", "numbers", "[I", true)
  | 1 => ("ForkInn$Sheet", "bits", "I", false)
  | _ => ("ForkInn$Sheet", "length", "I", false)
def tyX1 : Nat → FieldType := fun k => match k with
  | 0 => .array .int
  | 1 => .int
  | _ => .int
abbrev wsX10 : List Cond := u_ws RX1 TX1 3
theorem nmX1 : ∀ a, a < 3 → ∀ b, b < 3 → a ≠ b → (TX1 a).2.1 ≠ (TX1 b).2.1 := by decide +kernel
theorem tyX1_ok : ∀ k, k < 3 → parseFieldDescriptor (TX1 k).2.2.1 = some (tyX1 k) := by decide +kernel
abbrev cX1_init : ByteArray := prog_3_method_1_code
def yX1_init : MethodName := ⟨RX1, "<init>", "()V"⟩
abbrev cX1_isMissing : ByteArray := prog_3_method_2_code
def yX1_isMissing : MethodName := ⟨RX1, "isMissing", "()Z"⟩
abbrev cX1_start : ByteArray := prog_3_method_3_code
def yX1_start : MethodName := ⟨RX1, "start", "(II)V"⟩
abbrev cX1_put : ByteArray := prog_3_method_4_code
def yX1_put : MethodName := ⟨RX1, "put", "(II)V"⟩
abbrev cX1_hasRange : ByteArray := prog_3_method_5_code
def yX1_hasRange : MethodName := ⟨RX1, "hasRange", "(II)Z"⟩
def RX2 : String := "ForkInn$Tape"
def TX2 : u_T := fun k => match k with
  | 0 => ("ForkInn$Tape", "bytes", "[B", true)
  | 1 => ("ForkInn$Tape", "length", "I", false)
  | 2 => ("ForkInn$Tape", "token", "I", false)
  | 3 => ("ForkInn$Tape", "start", "I", false)
  | 4 => ("ForkInn$Tape", "behind", "I", false)
  | _ => ("ForkInn$Tape", "value", "I", false)
def tyX2 : Nat → FieldType := fun k => match k with
  | 0 => .array .byte
  | 1 => .int
  | 2 => .int
  | 3 => .int
  | 4 => .int
  | _ => .int
abbrev wsX20 : List Cond := u_ws RX2 TX2 6
theorem nmX2 : ∀ a, a < 6 → ∀ b, b < 6 → a ≠ b → (TX2 a).2.1 ≠ (TX2 b).2.1 := by decide +kernel
theorem tyX2_ok : ∀ k, k < 6 → parseFieldDescriptor (TX2 k).2.2.1 = some (tyX2 k) := by decide +kernel
abbrev cX2_init : ByteArray := prog_4_method_1_code
def yX2_init : MethodName := ⟨RX2, "<init>", "()V"⟩
abbrev cX2_addByte : ByteArray := prog_4_method_2_code
def yX2_addByte : MethodName := ⟨RX2, "addByte", "(B)V"⟩
abbrev cX2_readText : ByteArray := prog_4_method_3_code
def yX2_readText : MethodName := ⟨RX2, "readText", "(LForkInn$Inn;)I"⟩
abbrev cX2_readItem : ByteArray := prog_4_method_4_code
def yX2_readItem : MethodName := ⟨RX2, "readItem", "(LForkInn$Inn;)Z"⟩
abbrev cX2_readDish : ByteArray := prog_4_method_5_code
def yX2_readDish : MethodName := ⟨RX2, "readDish", "(LForkInn$Inn;I)Z"⟩
abbrev cX2_readGuest : ByteArray := prog_4_method_6_code
def yX2_readGuest : MethodName := ⟨RX2, "readGuest", "(LForkInn$Inn;)Z"⟩
abbrev cX2_readMeal : ByteArray := prog_4_method_7_code
def yX2_readMeal : MethodName := ⟨RX2, "readMeal", "(LForkInn$Inn;)Z"⟩
abbrev cX2_takeWord : ByteArray := prog_4_method_8_code
def yX2_takeWord : MethodName := ⟨RX2, "takeWord", "(Ljava/lang/String;)Z"⟩
abbrev cX2_takeNumber : ByteArray := prog_4_method_9_code
def yX2_takeNumber : MethodName := ⟨RX2, "takeNumber", "(I)I"⟩
abbrev cX2_isWord : ByteArray := prog_4_method_10_code
def yX2_isWord : MethodName := ⟨RX2, "isWord", "(Ljava/lang/String;)Z"⟩
abbrev cX2_wordOf : ByteArray := prog_4_method_11_code
def yX2_wordOf : MethodName := ⟨RX2, "wordOf", "(I)Ljava/lang/String;"⟩
abbrev cX2_nextToken : ByteArray := prog_4_method_12_code
def yX2_nextToken : MethodName := ⟨RX2, "nextToken", "()V"⟩
abbrev cX2_tokenBegunBy : ByteArray := prog_4_method_13_code
def yX2_tokenBegunBy : MethodName := ⟨RX2, "tokenBegunBy", "(B)I"⟩
def RX3 : String := "ForkInn"
def TX3 : u_T := fun k => match k with
  | 0 => ("ForkInn", "inn", "LForkInn$Inn;", true)
  | 1 => ("ForkInn", "kept", "LForkInn$Inn;", true)
  | 2 => ("ForkInn", "trial", "LForkInn$Inn;", true)
  | 3 => ("ForkInn", "tape", "LForkInn$Tape;", true)
  | 4 => ("ForkInn", "sheets", "[LForkInn$Sheet;", true)
  | 5 => ("ForkInn", "findings", "[I", true)
  | _ => ("ForkInn", "imageKept", "Z", false)
def tyX3 : Nat → FieldType := fun k => match k with
  | 0 => .object "ForkInn$Inn"
  | 1 => .object "ForkInn$Inn"
  | 2 => .object "ForkInn$Inn"
  | 3 => .object "ForkInn$Tape"
  | 4 => .array (.object "ForkInn$Sheet")
  | 5 => .array .int
  | _ => .boolean
abbrev wsX30 : List Cond := u_ws RX3 TX3 7
theorem nmX3 : ∀ a, a < 7 → ∀ b, b < 7 → a ≠ b → (TX3 a).2.1 ≠ (TX3 b).2.1 := by decide +kernel
theorem tyX3_ok : ∀ k, k < 7 → parseFieldDescriptor (TX3 k).2.2.1 = some (tyX3 k) := by decide +kernel
abbrev cX3_init : ByteArray := prog_1_method_1_code
def yX3_init : MethodName := ⟨RX3, "<init>", "()V"⟩
abbrev cX3_list : ByteArray := prog_1_method_2_code
def yX3_list : MethodName := ⟨RX3, "list", "(III)I"⟩
abbrev cX3_listed : ByteArray := prog_1_method_3_code
def yX3_listed : MethodName := ⟨RX3, "listed", "(I)I"⟩
abbrev cX3_dish : ByteArray := prog_1_method_4_code
def yX3_dish : MethodName := ⟨RX3, "dish", "(III)I"⟩
abbrev cX3_guest : ByteArray := prog_1_method_5_code
def yX3_guest : MethodName := ⟨RX3, "guest", "(I)I"⟩
abbrev cX3_of : ByteArray := prog_1_method_6_code
def yX3_of : MethodName := ⟨RX3, "of", "(II)I"⟩
abbrev cX3_change : ByteArray := prog_1_method_7_code
def yX3_change : MethodName := ⟨RX3, "change", "(III)I"⟩
abbrev cX3_ofGuest : ByteArray := prog_1_method_8_code
def yX3_ofGuest : MethodName := ⟨RX3, "ofGuest", "(II)I"⟩
abbrev cX3_seat : ByteArray := prog_1_method_9_code
def yX3_seat : MethodName := ⟨RX3, "seat", "(III)I"⟩
abbrev cX3_would : ByteArray := prog_1_method_10_code
def yX3_would : MethodName := ⟨RX3, "would", "(III)I"⟩
abbrev cX3_eat : ByteArray := prog_1_method_11_code
def yX3_eat : MethodName := ⟨RX3, "eat", "(II)I"⟩
abbrev cX3_go : ByteArray := prog_1_method_12_code
def yX3_go : MethodName := ⟨RX3, "go", "(I)I"⟩
abbrev cX3_now : ByteArray := prog_1_method_13_code
def yX3_now : MethodName := ⟨RX3, "now", "(I)I"⟩
abbrev cX3_ahead : ByteArray := prog_1_method_14_code
def yX3_ahead : MethodName := ⟨RX3, "ahead", "(III)I"⟩
abbrev cX3_served : ByteArray := prog_1_method_15_code
def yX3_served : MethodName := ⟨RX3, "served", "(II)I"⟩
abbrev cX3_when : ByteArray := prog_1_method_16_code
def yX3_when : MethodName := ⟨RX3, "when", "(II)I"⟩
abbrev cX3_owes : ByteArray := prog_1_method_17_code
def yX3_owes : MethodName := ⟨RX3, "owes", "(II)I"⟩
abbrev cX3_part : ByteArray := prog_1_method_18_code
def yX3_part : MethodName := ⟨RX3, "part", "(II)I"⟩
abbrev cX3_dishFor : ByteArray := prog_1_method_19_code
def yX3_dishFor : MethodName := ⟨RX3, "dishFor", "(II)I"⟩
abbrev cX3_kindFor : ByteArray := prog_1_method_20_code
def yX3_kindFor : MethodName := ⟨RX3, "kindFor", "(II)I"⟩
abbrev cX3_bentFor : ByteArray := prog_1_method_21_code
def yX3_bentFor : MethodName := ⟨RX3, "bentFor", "(III)I"⟩
abbrev cX3_courses : ByteArray := prog_1_method_22_code
def yX3_courses : MethodName := ⟨RX3, "courses", "(II)I"⟩
abbrev cX3_strike : ByteArray := prog_1_method_23_code
def yX3_strike : MethodName := ⟨RX3, "strike", "(III)I"⟩
abbrev cX3_fits : ByteArray := prog_1_method_24_code
def yX3_fits : MethodName := ⟨RX3, "fits", "(II)I"⟩
abbrev cX3_kinds : ByteArray := prog_1_method_25_code
def yX3_kinds : MethodName := ⟨RX3, "kinds", "(III)I"⟩
abbrev cX3_coach : ByteArray := prog_1_method_26_code
def yX3_coach : MethodName := ⟨RX3, "coach", "(I)I"⟩
abbrev cX3_odds : ByteArray := prog_1_method_27_code
def yX3_odds : MethodName := ⟨RX3, "odds", "(IIII)J"⟩
abbrev cX3_seed : ByteArray := prog_1_method_28_code
def yX3_seed : MethodName := ⟨RX3, "seed", "(I)I"⟩
abbrev cX3_feed : ByteArray := prog_1_method_29_code
def yX3_feed : MethodName := ⟨RX3, "feed", "(II)I"⟩
abbrev cX3_wipe : ByteArray := prog_1_method_30_code
def yX3_wipe : MethodName := ⟨RX3, "wipe", "()I"⟩
abbrev cX3_text : ByteArray := prog_1_method_31_code
def yX3_text : MethodName := ⟨RX3, "text", "()I"⟩
abbrev cX3_hold : ByteArray := prog_1_method_32_code
def yX3_hold : MethodName := ⟨RX3, "hold", "(II)I"⟩
abbrev cX3_as : ByteArray := prog_1_method_33_code
def yX3_as : MethodName := ⟨RX3, "as", "(II)I"⟩
abbrev cX3_sheet : ByteArray := prog_1_method_34_code
def yX3_sheet : MethodName := ⟨RX3, "sheet", "(III)I"⟩
abbrev cX3_write : ByteArray := prog_1_method_35_code
def yX3_write : MethodName := ⟨RX3, "write", "(III)I"⟩
abbrev cX3_copy : ByteArray := prog_1_method_36_code
def yX3_copy : MethodName := ⟨RX3, "copy", "(IIIII)I"⟩
abbrev cX3_load : ByteArray := prog_1_method_37_code
def yX3_load : MethodName := ⟨RX3, "load", "(I)I"⟩
abbrev cX3_judge : ByteArray := prog_1_method_38_code
def yX3_judge : MethodName := ⟨RX3, "judge", "(I)I"⟩
abbrev cX3_image : ByteArray := prog_1_method_39_code
def yX3_image : MethodName := ⟨RX3, "image", "()I"⟩
abbrev cX3_undo : ByteArray := prog_1_method_40_code
def yX3_undo : MethodName := ⟨RX3, "undo", "()I"⟩
abbrev cX3_tear : ByteArray := prog_1_method_41_code
def yX3_tear : MethodName := ⟨RX3, "tear", "()I"⟩
abbrev cX3_count : ByteArray := prog_1_method_42_code
def yX3_count : MethodName := ⟨RX3, "count", "(I)I"⟩
abbrev cX3_status : ByteArray := prog_1_method_43_code
def yX3_status : MethodName := ⟨RX3, "status", "(I)I"⟩
abbrev cX3_found : ByteArray := prog_1_method_44_code
def yX3_found : MethodName := ⟨RX3, "found", "(I)I"⟩
abbrev cX3_sheetTrouble : ByteArray := prog_1_method_45_code
def yX3_sheetTrouble : MethodName := ⟨RX3, "sheetTrouble", "(I)I"⟩
abbrev cX3_leadsTo : ByteArray := prog_1_method_46_code
def yX3_leadsTo : MethodName := ⟨RX3, "leadsTo", "(III)Z"⟩
abbrev cX3_leadsToBy : ByteArray := prog_1_method_47_code
def yX3_leadsToBy : MethodName := ⟨RX3, "leadsToBy", "(IIII)Z"⟩
abbrev cX3_keepsAway : ByteArray := prog_1_method_48_code
def yX3_keepsAway : MethodName := ⟨RX3, "keepsAway", "(IIII)Z"⟩
abbrev cX3_goesAsTold : ByteArray := prog_1_method_49_code
def yX3_goesAsTold : MethodName := ⟨RX3, "goesAsTold", "(LForkInn$Sheet;I)Z"⟩
abbrev cX3_sharedWithAllBents : ByteArray := prog_1_method_50_code
def yX3_sharedWithAllBents : MethodName := ⟨RX3, "sharedWithAllBents", "(I)I"⟩
abbrev cX3_power : ByteArray := prog_1_method_51_code
def yX3_power : MethodName := ⟨RX3, "power", "(II)J"⟩
abbrev cX3_within : ByteArray := prog_1_method_52_code
def yX3_within : MethodName := ⟨RX3, "within", "(III)Z"⟩
abbrev cX3_isPlace : ByteArray := prog_1_method_53_code
def yX3_isPlace : MethodName := ⟨RX3, "isPlace", "(I)Z"⟩
abbrev cX3_isKind : ByteArray := prog_1_method_54_code
def yX3_isKind : MethodName := ⟨RX3, "isKind", "(I)Z"⟩
abbrev cX3_isTown : ByteArray := prog_1_method_55_code
def yX3_isTown : MethodName := ⟨RX3, "isTown", "(I)Z"⟩
abbrev cX3_isBent : ByteArray := prog_1_method_56_code
def yX3_isBent : MethodName := ⟨RX3, "isBent", "(I)Z"⟩
abbrev cX3_isGuestFact : ByteArray := prog_1_method_57_code
def yX3_isGuestFact : MethodName := ⟨RX3, "isGuestFact", "(I)Z"⟩
abbrev cX3_isSpot : ByteArray := prog_1_method_58_code
def yX3_isSpot : MethodName := ⟨RX3, "isSpot", "(I)Z"⟩
abbrev cX3_isSheet : ByteArray := prog_1_method_59_code
def yX3_isSheet : MethodName := ⟨RX3, "isSheet", "(I)Z"⟩
def RX4 : String := "ForkInnModel"
def TX4 : u_T := fun k => match k with
  | 0 => ("ForkInnModel", "m", "[I", true)
  | 1 => ("ForkInnModel", "kept", "[I", true)
  | 2 => ("ForkInnModel", "was", "[I", true)
  | 3 => ("ForkInnModel", "isKept", "Z", false)
  | 4 => ("ForkInnModel", "found", "[I", true)
  | 5 => ("ForkInnModel", "bitsOf", "[I", true)
  | 6 => ("ForkInnModel", "sizeOf", "[I", true)
  | 7 => ("ForkInnModel", "cells", "[I", true)
  | 8 => ("ForkInnModel", "tape", "[I", true)
  | 9 => ("ForkInnModel", "taped", "I", false)
  | 10 => ("ForkInnModel", "token", "I", false)
  | 11 => ("ForkInnModel", "begin", "I", false)
  | 12 => ("ForkInnModel", "at", "I", false)
  | 13 => ("ForkInnModel", "value", "I", false)
  | _ => ("ForkInnModel", "bad", "Z", false)
def tyX4 : Nat → FieldType := fun k => match k with
  | 0 => .array .int
  | 1 => .array .int
  | 2 => .array .int
  | 3 => .boolean
  | 4 => .array .int
  | 5 => .array .int
  | 6 => .array .int
  | 7 => .array .int
  | 8 => .array .int
  | 9 => .int
  | 10 => .int
  | 11 => .int
  | 12 => .int
  | 13 => .int
  | _ => .boolean
abbrev wsX40 : List Cond := u_ws RX4 TX4 15
theorem nmX4 : ∀ a, a < 15 → ∀ b, b < 15 → a ≠ b → (TX4 a).2.1 ≠ (TX4 b).2.1 := by decide +kernel
theorem tyX4_ok : ∀ k, k < 15 → parseFieldDescriptor (TX4 k).2.2.1 = some (tyX4 k) := by decide +kernel
abbrev cX4_init : ByteArray := prog_6_method_1_code
def yX4_init : MethodName := ⟨RX4, "<init>", "()V"⟩
abbrev cX4_finds : ByteArray := prog_6_method_2_code
def yX4_finds : MethodName := ⟨RX4, "finds", "(I)I"⟩
abbrev cX4_orNone : ByteArray := prog_6_method_3_code
def yX4_orNone : MethodName := ⟨RX4, "orNone", "(I)I"⟩
abbrev cX4_in : ByteArray := prog_6_method_4_code
def yX4_in : MethodName := ⟨RX4, "in", "(III)Z"⟩
abbrev cX4_held : ByteArray := prog_6_method_5_code
def yX4_held : MethodName := ⟨RX4, "held", "(III)I"⟩
abbrev cX4_copyAll : ByteArray := prog_6_method_6_code
def yX4_copyAll : MethodName := ⟨RX4, "copyAll", "([I[I)V"⟩
abbrev cX4_becomes : ByteArray := prog_6_method_7_code
def yX4_becomes : MethodName := ⟨RX4, "becomes", "(II)I"⟩
abbrev cX4_isDish : ByteArray := prog_6_method_8_code
def yX4_isDish : MethodName := ⟨RX4, "isDish", "(I)Z"⟩
abbrev cX4_isGuest : ByteArray := prog_6_method_9_code
def yX4_isGuest : MethodName := ⟨RX4, "isGuest", "(I)Z"⟩
abbrev cX4_isTown : ByteArray := prog_6_method_10_code
def yX4_isTown : MethodName := ⟨RX4, "isTown", "(I)Z"⟩
abbrev cX4_isPlace : ByteArray := prog_6_method_11_code
def yX4_isPlace : MethodName := ⟨RX4, "isPlace", "(I)Z"⟩
abbrev cX4_it : ByteArray := prog_6_method_12_code
def yX4_it : MethodName := ⟨RX4, "it", "(II)I"⟩
abbrev cX4_put : ByteArray := prog_6_method_13_code
def yX4_put : MethodName := ⟨RX4, "put", "(III)V"⟩
abbrev cX4_his : ByteArray := prog_6_method_14_code
def yX4_his : MethodName := ⟨RX4, "his", "(II)I"⟩
abbrev cX4_lets : ByteArray := prog_6_method_15_code
def yX4_lets : MethodName := ⟨RX4, "lets", "(III)V"⟩
abbrev cX4_bits : ByteArray := prog_6_method_16_code
def yX4_bits : MethodName := ⟨RX4, "bits", "(I)I"⟩
abbrev cX4_isAnotherFor : ByteArray := prog_6_method_17_code
def yX4_isAnotherFor : MethodName := ⟨RX4, "isAnotherFor", "(II)Z"⟩
abbrev cX4_isLeft : ByteArray := prog_6_method_18_code
def yX4_isLeft : MethodName := ⟨RX4, "isLeft", "(II)Z"⟩
abbrev cX4_bends : ByteArray := prog_6_method_19_code
def yX4_bends : MethodName := ⟨RX4, "bends", "(IZ)I"⟩
abbrev cX4_costs : ByteArray := prog_6_method_20_code
def yX4_costs : MethodName := ⟨RX4, "costs", "(IIZ)I"⟩
abbrev cX4_list : ByteArray := prog_6_method_21_code
def yX4_list : MethodName := ⟨RX4, "list", "(III)I"⟩
abbrev cX4_listed : ByteArray := prog_6_method_22_code
def yX4_listed : MethodName := ⟨RX4, "listed", "(I)I"⟩
abbrev cX4_comes : ByteArray := prog_6_method_23_code
def yX4_comes : MethodName := ⟨RX4, "comes", "(III)I"⟩
abbrev cX4_dish : ByteArray := prog_6_method_24_code
def yX4_dish : MethodName := ⟨RX4, "dish", "(III)I"⟩
abbrev cX4_enters : ByteArray := prog_6_method_25_code
def yX4_enters : MethodName := ⟨RX4, "enters", "(II)I"⟩
abbrev cX4_guest : ByteArray := prog_6_method_26_code
def yX4_guest : MethodName := ⟨RX4, "guest", "(I)I"⟩
abbrev cX4_of : ByteArray := prog_6_method_27_code
def yX4_of : MethodName := ⟨RX4, "of", "(II)I"⟩
abbrev cX4_mostOf : ByteArray := prog_6_method_28_code
def yX4_mostOf : MethodName := ⟨RX4, "mostOf", "(I)I"⟩
abbrev cX4_change : ByteArray := prog_6_method_29_code
def yX4_change : MethodName := ⟨RX4, "change", "(III)I"⟩
abbrev cX4_ofGuest : ByteArray := prog_6_method_30_code
def yX4_ofGuest : MethodName := ⟨RX4, "ofGuest", "(II)I"⟩
abbrev cX4_mostOfGuest : ByteArray := prog_6_method_31_code
def yX4_mostOfGuest : MethodName := ⟨RX4, "mostOfGuest", "(I)I"⟩
abbrev cX4_seat : ByteArray := prog_6_method_32_code
def yX4_seat : MethodName := ⟨RX4, "seat", "(III)I"⟩
abbrev cX4_would : ByteArray := prog_6_method_33_code
def yX4_would : MethodName := ⟨RX4, "would", "(III)I"⟩
abbrev cX4_eats : ByteArray := prog_6_method_34_code
def yX4_eats : MethodName := ⟨RX4, "eats", "(II)I"⟩
abbrev cX4_eat : ByteArray := prog_6_method_35_code
def yX4_eat : MethodName := ⟨RX4, "eat", "(II)I"⟩
abbrev cX4_goes : ByteArray := prog_6_method_36_code
def yX4_goes : MethodName := ⟨RX4, "goes", "()V"⟩
abbrev cX4_goesFor : ByteArray := prog_6_method_37_code
def yX4_goesFor : MethodName := ⟨RX4, "goesFor", "(I)V"⟩
abbrev cX4_bills : ByteArray := prog_6_method_38_code
def yX4_bills : MethodName := ⟨RX4, "bills", "()I"⟩
abbrev cX4_go : ByteArray := prog_6_method_39_code
def yX4_go : MethodName := ⟨RX4, "go", "(I)I"⟩
abbrev cX4_aims : ByteArray := prog_6_method_40_code
def yX4_aims : MethodName := ⟨RX4, "aims", "()I"⟩
abbrev cX4_allBeen : ByteArray := prog_6_method_41_code
def yX4_allBeen : MethodName := ⟨RX4, "allBeen", "()I"⟩
abbrev cX4_allServed : ByteArray := prog_6_method_42_code
def yX4_allServed : MethodName := ⟨RX4, "allServed", "()I"⟩
abbrev cX4_pairsApart : ByteArray := prog_6_method_43_code
def yX4_pairsApart : MethodName := ⟨RX4, "pairsApart", "()I"⟩
abbrev cX4_onCard : ByteArray := prog_6_method_44_code
def yX4_onCard : MethodName := ⟨RX4, "onCard", "()I"⟩
abbrev cX4_debtor : ByteArray := prog_6_method_45_code
def yX4_debtor : MethodName := ⟨RX4, "debtor", "()I"⟩
abbrev cX4_now : ByteArray := prog_6_method_46_code
def yX4_now : MethodName := ⟨RX4, "now", "(I)I"⟩
abbrev cX4_thinks : ByteArray := prog_6_method_47_code
def yX4_thinks : MethodName := ⟨RX4, "thinks", "()V"⟩
abbrev cX4_putsBack : ByteArray := prog_6_method_48_code
def yX4_putsBack : MethodName := ⟨RX4, "putsBack", "()V"⟩
abbrev cX4_behind : ByteArray := prog_6_method_49_code
def yX4_behind : MethodName := ⟨RX4, "behind", "(II)I"⟩
abbrev cX4_ahead : ByteArray := prog_6_method_50_code
def yX4_ahead : MethodName := ⟨RX4, "ahead", "(III)I"⟩
abbrev cX4_served : ByteArray := prog_6_method_51_code
def yX4_served : MethodName := ⟨RX4, "served", "(II)I"⟩
abbrev cX4_when : ByteArray := prog_6_method_52_code
def yX4_when : MethodName := ⟨RX4, "when", "(II)I"⟩
abbrev cX4_owes : ByteArray := prog_6_method_53_code
def yX4_owes : MethodName := ⟨RX4, "owes", "(II)I"⟩
abbrev cX4_part : ByteArray := prog_6_method_54_code
def yX4_part : MethodName := ⟨RX4, "part", "(II)I"⟩
abbrev cX4_leastBy : ByteArray := prog_6_method_55_code
def yX4_leastBy : MethodName := ⟨RX4, "leastBy", "(IIII)I"⟩
abbrev cX4_dishFor : ByteArray := prog_6_method_56_code
def yX4_dishFor : MethodName := ⟨RX4, "dishFor", "(II)I"⟩
abbrev cX4_kindFor : ByteArray := prog_6_method_57_code
def yX4_kindFor : MethodName := ⟨RX4, "kindFor", "(II)I"⟩
abbrev cX4_bentFor : ByteArray := prog_6_method_58_code
def yX4_bentFor : MethodName := ⟨RX4, "bentFor", "(III)I"⟩
abbrev cX4_doBring : ByteArray := prog_6_method_59_code
def yX4_doBring : MethodName := ⟨RX4, "doBring", "(IIII)Z"⟩
abbrev cX4_courses : ByteArray := prog_6_method_60_code
def yX4_courses : MethodName := ⟨RX4, "courses", "(II)I"⟩
abbrev cX4_isElsewhere : ByteArray := prog_6_method_61_code
def yX4_isElsewhere : MethodName := ⟨RX4, "isElsewhere", "(IIII)Z"⟩
abbrev cX4_strike : ByteArray := prog_6_method_62_code
def yX4_strike : MethodName := ⟨RX4, "strike", "(III)I"⟩
abbrev cX4_isSheet : ByteArray := prog_6_method_63_code
def yX4_isSheet : MethodName := ⟨RX4, "isSheet", "(I)Z"⟩
abbrev cX4_notThere : ByteArray := prog_6_method_64_code
def yX4_notThere : MethodName := ⟨RX4, "notThere", "(I)I"⟩
abbrev cX4_isTold : ByteArray := prog_6_method_65_code
def yX4_isTold : MethodName := ⟨RX4, "isTold", "(II)Z"⟩
abbrev cX4_fits : ByteArray := prog_6_method_66_code
def yX4_fits : MethodName := ⟨RX4, "fits", "(II)I"⟩
abbrev cX4_kinds : ByteArray := prog_6_method_67_code
def yX4_kinds : MethodName := ⟨RX4, "kinds", "(III)I"⟩
abbrev cX4_draw : ByteArray := prog_6_method_68_code
def yX4_draw : MethodName := ⟨RX4, "draw", "()I"⟩
abbrev cX4_coach : ByteArray := prog_6_method_69_code
def yX4_coach : MethodName := ⟨RX4, "coach", "(I)I"⟩
abbrev cX4_odds : ByteArray := prog_6_method_70_code
def yX4_odds : MethodName := ⟨RX4, "odds", "(IIII)J"⟩
abbrev cX4_seed : ByteArray := prog_6_method_71_code
def yX4_seed : MethodName := ⟨RX4, "seed", "(I)I"⟩
abbrev cX4_feed : ByteArray := prog_6_method_72_code
def yX4_feed : MethodName := ⟨RX4, "feed", "(II)I"⟩
abbrev cX4_wipe : ByteArray := prog_6_method_73_code
def yX4_wipe : MethodName := ⟨RX4, "wipe", "()I"⟩
abbrev cX4_isByte : ByteArray := prog_6_method_74_code
def yX4_isByte : MethodName := ⟨RX4, "isByte", "(III)Z"⟩
abbrev cX4_isName : ByteArray := prog_6_method_75_code
def yX4_isName : MethodName := ⟨RX4, "isName", "(II)Z"⟩
abbrev cX4_wordHere : ByteArray := prog_6_method_76_code
def yX4_wordHere : MethodName := ⟨RX4, "wordHere", "()I"⟩
abbrev cX4_reads : ByteArray := prog_6_method_77_code
def yX4_reads : MethodName := ⟨RX4, "reads", "()V"⟩
abbrev cX4_takes : ByteArray := prog_6_method_78_code
def yX4_takes : MethodName := ⟨RX4, "takes", "(I)Z"⟩
abbrev cX4_number : ByteArray := prog_6_method_79_code
def yX4_number : MethodName := ⟨RX4, "number", "(II)I"⟩
abbrev cX4_perhaps : ByteArray := prog_6_method_80_code
def yX4_perhaps : MethodName := ⟨RX4, "perhaps", "(IIII)I"⟩
abbrev cX4_dishItem : ByteArray := prog_6_method_81_code
def yX4_dishItem : MethodName := ⟨RX4, "dishItem", "()V"⟩
abbrev cX4_guestItem : ByteArray := prog_6_method_82_code
def yX4_guestItem : MethodName := ⟨RX4, "guestItem", "()V"⟩
abbrev cX4_mealItem : ByteArray := prog_6_method_83_code
def yX4_mealItem : MethodName := ⟨RX4, "mealItem", "()V"⟩
abbrev cX4_item : ByteArray := prog_6_method_84_code
def yX4_item : MethodName := ⟨RX4, "item", "()V"⟩
abbrev cX4_text : ByteArray := prog_6_method_85_code
def yX4_text : MethodName := ⟨RX4, "text", "()I"⟩
abbrev cX4_hold : ByteArray := prog_6_method_86_code
def yX4_hold : MethodName := ⟨RX4, "hold", "(II)I"⟩
abbrev cX4_isUnder : ByteArray := prog_6_method_87_code
def yX4_isUnder : MethodName := ⟨RX4, "isUnder", "(II)Z"⟩
abbrev cX4_as : ByteArray := prog_6_method_88_code
def yX4_as : MethodName := ⟨RX4, "as", "(II)I"⟩
abbrev cX4_sheet : ByteArray := prog_6_method_89_code
def yX4_sheet : MethodName := ⟨RX4, "sheet", "(III)I"⟩
abbrev cX4_write : ByteArray := prog_6_method_90_code
def yX4_write : MethodName := ⟨RX4, "write", "(III)I"⟩
abbrev cX4_notCopied : ByteArray := prog_6_method_91_code
def yX4_notCopied : MethodName := ⟨RX4, "notCopied", "(IIIII)I"⟩
abbrev cX4_copy : ByteArray := prog_6_method_92_code
def yX4_copy : MethodName := ⟨RX4, "copy", "(IIIII)I"⟩
abbrev cX4_load : ByteArray := prog_6_method_93_code
def yX4_load : MethodName := ⟨RX4, "load", "(I)I"⟩
abbrev cX4_judge : ByteArray := prog_6_method_94_code
def yX4_judge : MethodName := ⟨RX4, "judge", "(I)I"⟩
abbrev cX4_image : ByteArray := prog_6_method_95_code
def yX4_image : MethodName := ⟨RX4, "image", "()I"⟩
abbrev cX4_undo : ByteArray := prog_6_method_96_code
def yX4_undo : MethodName := ⟨RX4, "undo", "()I"⟩
abbrev cX4_tear : ByteArray := prog_6_method_97_code
def yX4_tear : MethodName := ⟨RX4, "tear", "()I"⟩
abbrev cX4_manyHeld : ByteArray := prog_6_method_98_code
def yX4_manyHeld : MethodName := ⟨RX4, "manyHeld", "()I"⟩
abbrev cX4_count : ByteArray := prog_6_method_99_code
def yX4_count : MethodName := ⟨RX4, "count", "(I)I"⟩
abbrev cX4_status : ByteArray := prog_6_method_100_code
def yX4_status : MethodName := ⟨RX4, "status", "(I)I"⟩
def RJ6 : String := "java/lang/Integer"
def TJ6 : u_T := fun k => match k with
  | _ => ("", "", "", false)
def tyJ6 : Nat → FieldType := fun k => match k with
  | _ => .int
abbrev wsJ60 : List Cond := u_ws RJ6 TJ6 0
theorem nmJ6 : ∀ a, a < 0 → ∀ b, b < 0 → a ≠ b → (TJ6 a).2.1 ≠ (TJ6 b).2.1 := by decide +kernel
theorem tyJ6_ok : ∀ k, k < 0 → parseFieldDescriptor (TJ6 k).2.2.1 = some (tyJ6 k) := by decide +kernel
abbrev cJ6_bitCount_0f7a4 : ByteArray := prog_7_method_49_code
def yJ6_bitCount_0f7a4 : MethodName := ⟨RJ6, "bitCount", "(I)I"⟩
def RJ9 : String := "java/lang/Math"
def TJ9 : u_T := fun k => match k with
  | _ => ("", "", "", false)
def tyJ9 : Nat → FieldType := fun k => match k with
  | _ => .int
abbrev wsJ90 : List Cond := u_ws RJ9 TJ9 0
theorem nmJ9 : ∀ a, a < 0 → ∀ b, b < 0 → a ≠ b → (TJ9 a).2.1 ≠ (TJ9 b).2.1 := by decide +kernel
theorem tyJ9_ok : ∀ k, k < 0 → parseFieldDescriptor (TJ9 k).2.2.1 = some (tyJ9 k) := by decide +kernel
abbrev cJ9_max_7cf53 : ByteArray := prog_8_method_65_code
def yJ9_max_7cf53 : MethodName := ⟨RJ9, "max", "(II)I"⟩
abbrev cJ9_min_7cf53 : ByteArray := prog_8_method_69_code
def yJ9_min_7cf53 : MethodName := ⟨RJ9, "min", "(II)I"⟩
def RJ0 : String := "java/lang/String"
def TJ0 : u_T := fun k => match k with
  | _ => ("", "", "", false)
def tyJ0 : Nat → FieldType := fun k => match k with
  | _ => .int
abbrev wsJ00 : List Cond := u_ws RJ0 TJ0 0
theorem nmJ0 : ∀ a, a < 0 → ∀ b, b < 0 → a ≠ b → (TJ0 a).2.1 ≠ (TJ0 b).2.1 := by decide +kernel
theorem tyJ0_ok : ∀ k, k < 0 → parseFieldDescriptor (TJ0 k).2.2.1 = some (tyJ0 k) := by decide +kernel
abbrev cJ0_length_8abf5 : ByteArray := prog_9_method_54_code
def yJ0_length_8abf5 : MethodName := ⟨RJ0, "length", "()I"⟩
abbrev cJ0_charAt_5068e : ByteArray := prog_9_method_56_code
def yJ0_charAt_5068e : MethodName := ⟨RJ0, "charAt", "(I)C"⟩
abbrev cJ0_coder_7d493 : ByteArray := prog_9_method_152_code
def yJ0_coder_7d493 : MethodName := ⟨RJ0, "coder", "()B"⟩
abbrev cJ0_isLatin1_aae02 : ByteArray := prog_9_method_154_code
def yJ0_isLatin1_aae02 : MethodName := ⟨RJ0, "isLatin1", "()Z"⟩
abbrev cJ0_checkIndex_df160 : ByteArray := prog_9_method_155_code
def yJ0_checkIndex_df160 : MethodName := ⟨RJ0, "checkIndex", "(II)V"⟩
def RJ1 : String := "java/lang/StringLatin1"
def TJ1 : u_T := fun k => match k with
  | _ => ("", "", "", false)
def tyJ1 : Nat → FieldType := fun k => match k with
  | _ => .int
abbrev wsJ10 : List Cond := u_ws RJ1 TJ1 0
theorem nmJ1 : ∀ a, a < 0 → ∀ b, b < 0 → a ≠ b → (TJ1 a).2.1 ≠ (TJ1 b).2.1 := by decide +kernel
theorem tyJ1_ok : ∀ k, k < 0 → parseFieldDescriptor (TJ1 k).2.2.1 = some (tyJ1 k) := by decide +kernel
abbrev cJ1_charAt_3b067 : ByteArray := prog_10_method_2_code
def yJ1_charAt_3b067 : MethodName := ⟨RJ1, "charAt", "([BI)C"⟩
def RJ2 : String := "java/lang/StringUTF16"
def TJ2 : u_T := fun k => match k with
  | _ => ("", "", "", false)
def tyJ2 : Nat → FieldType := fun k => match k with
  | _ => .int
abbrev wsJ20 : List Cond := u_ws RJ2 TJ2 0
theorem nmJ2 : ∀ a, a < 0 → ∀ b, b < 0 → a ≠ b → (TJ2 a).2.1 ≠ (TJ2 b).2.1 := by decide +kernel
theorem tyJ2_ok : ∀ k, k < 0 → parseFieldDescriptor (TJ2 k).2.2.1 = some (tyJ2 k) := by decide +kernel
abbrev cJ2_getChar_3b067 : ByteArray := prog_11_method_5_code
def yJ2_getChar_3b067 : MethodName := ⟨RJ2, "getChar", "([BI)C"⟩
abbrev cJ2_length_9d52b : ByteArray := prog_11_method_6_code
def yJ2_length_9d52b : MethodName := ⟨RJ2, "length", "([B)I"⟩
abbrev cJ2_charAt_3b067 : ByteArray := prog_11_method_83_code
def yJ2_charAt_3b067 : MethodName := ⟨RJ2, "charAt", "([BI)C"⟩
abbrev cJ2_checkIndex_2214a : ByteArray := prog_11_method_91_code
def yJ2_checkIndex_2214a : MethodName := ⟨RJ2, "checkIndex", "(I[B)V"⟩
def RJ10 : String := "java/lang/System"
def TJ10 : u_T := fun k => match k with
  | _ => ("", "", "", false)
def tyJ10 : Nat → FieldType := fun k => match k with
  | _ => .int
abbrev wsJ100 : List Cond := u_ws RJ10 TJ10 0
theorem nmJ10 : ∀ a, a < 0 → ∀ b, b < 0 → a ≠ b → (TJ10 a).2.1 ≠ (TJ10 b).2.1 := by decide +kernel
theorem tyJ10_ok : ∀ k, k < 0 → parseFieldDescriptor (TJ10 k).2.2.1 = some (tyJ10 k) := by decide +kernel
def RJ3 : String := "jdk/internal/util/Preconditions"
def TJ3 : u_T := fun k => match k with
  | _ => ("", "", "", false)
def tyJ3 : Nat → FieldType := fun k => match k with
  | _ => .int
abbrev wsJ30 : List Cond := u_ws RJ3 TJ3 0
theorem nmJ3 : ∀ a, a < 0 → ∀ b, b < 0 → a ≠ b → (TJ3 a).2.1 ≠ (TJ3 b).2.1 := by decide +kernel
theorem tyJ3_ok : ∀ k, k < 0 → parseFieldDescriptor (TJ3 k).2.2.1 = some (tyJ3 k) := by decide +kernel
abbrev cJ3_checkIndex_8e157 : ByteArray := prog_13_method_11_code
def yJ3_checkIndex_8e157 : MethodName := ⟨RJ3, "checkIndex", "(IILjava/util/function/BiFunction;)I"⟩
def RL : String := "ForkInnLaw"
abbrev cL_law : ByteArray := code
def yL_law : MethodName := ⟨RL, "law", "([I)Z"⟩
abbrev vwCl : List vw_C := [(RX0, TX0, 8), (RX1, TX1, 3), (RX2, TX2, 6), (RX3, TX3, 7), (RX4, TX4, 15)]
end
section
theorem dX0_init_0 : decode cX0_init 0 = .ok (.aload_n 0, 1) := by decide +kernel
theorem dX0_init_1 : decode cX0_init 1 = .ok (.invokespecial 3, 3) := by decide +kernel
theorem dX0_init_4 : decode cX0_init 4 = .ok (.aload_n 0, 1) := by decide +kernel
theorem dX0_init_5 : decode cX0_init 5 = .ok (.bipush 6, 2) := by decide +kernel
theorem dX0_init_7 : decode cX0_init 7 = .ok (.newarray .int, 2) := by decide +kernel
theorem dX0_init_9 : decode cX0_init 9 = .ok (.putfield 11, 3) := by decide +kernel
theorem dX0_init_12 : decode cX0_init 12 = .ok (.aload_n 0, 1) := by decide +kernel
theorem dX0_init_13 : decode cX0_init 13 = .ok (.bipush 48, 2) := by decide +kernel
theorem dX0_init_15 : decode cX0_init 15 = .ok (.newarray .int, 2) := by decide +kernel
theorem dX0_init_17 : decode cX0_init 17 = .ok (.putfield 15, 3) := by decide +kernel
theorem dX0_init_20 : decode cX0_init 20 = .ok (.aload_n 0, 1) := by decide +kernel
theorem dX0_init_21 : decode cX0_init 21 = .ok (.bipush 30, 2) := by decide +kernel
theorem dX0_init_23 : decode cX0_init 23 = .ok (.newarray .int, 2) := by decide +kernel
theorem dX0_init_25 : decode cX0_init 25 = .ok (.putfield 18, 3) := by decide +kernel
theorem dX0_init_28 : decode cX0_init 28 = .ok (.aload_n 0, 1) := by decide +kernel
theorem dX0_init_29 : decode cX0_init 29 = .ok (.bipush 10, 2) := by decide +kernel
theorem dX0_init_31 : decode cX0_init 31 = .ok (.newarray .int, 2) := by decide +kernel
theorem dX0_init_33 : decode cX0_init 33 = .ok (.putfield 21, 3) := by decide +kernel
theorem dX0_init_36 : decode cX0_init 36 = .ok (.iconst 0, 1) := by decide +kernel
theorem dX0_init_37 : decode cX0_init 37 = .ok (.istore_n 1, 1) := by decide +kernel
theorem dX0_init_38 : decode cX0_init 38 = .ok (.iload_n 1, 1) := by decide +kernel
theorem dX0_init_39 : decode cX0_init 39 = .ok (.bipush 10, 2) := by decide +kernel
theorem dX0_init_41 : decode cX0_init 41 = .ok (.if_icmp .ge 16, 3) := by decide +kernel
theorem dX0_init_44 : decode cX0_init 44 = .ok (.aload_n 0, 1) := by decide +kernel
theorem dX0_init_45 : decode cX0_init 45 = .ok (.getfield 21, 3) := by decide +kernel
theorem dX0_init_48 : decode cX0_init 48 = .ok (.iload_n 1, 1) := by decide +kernel
theorem dX0_init_49 : decode cX0_init 49 = .ok (.iconst (-1), 1) := by decide +kernel
theorem dX0_init_50 : decode cX0_init 50 = .ok (.iastore, 1) := by decide +kernel
theorem dX0_init_51 : decode cX0_init 51 = .ok (.iinc 1 1, 3) := by decide +kernel
theorem dX0_init_54 : decode cX0_init 54 = .ok (.goto (-16), 3) := by decide +kernel
theorem dX0_init_57 : decode cX0_init 57 = .ok (.aload_n 0, 1) := by decide +kernel
theorem dX0_init_58 : decode cX0_init 58 = .ok (.iconst 1, 1) := by decide +kernel
theorem dX0_init_59 : decode cX0_init 59 = .ok (.putfield 24, 3) := by decide +kernel
theorem dX0_init_62 : decode cX0_init 62 = .ok (.return_, 1) := by decide +kernel
theorem dX0_become_0 : decode cX0_become 0 = .ok (.aload_n 1, 1) := by decide +kernel
theorem dX0_become_1 : decode cX0_become 1 = .ok (.getfield 11, 3) := by decide +kernel
theorem dX0_become_4 : decode cX0_become 4 = .ok (.iconst 0, 1) := by decide +kernel
theorem dX0_become_5 : decode cX0_become 5 = .ok (.aload_n 0, 1) := by decide +kernel
theorem dX0_become_6 : decode cX0_become 6 = .ok (.getfield 11, 3) := by decide +kernel
theorem dX0_become_9 : decode cX0_become 9 = .ok (.iconst 0, 1) := by decide +kernel
theorem dX0_become_10 : decode cX0_become 10 = .ok (.bipush 6, 2) := by decide +kernel
theorem dX0_become_12 : decode cX0_become 12 = .ok (.invokestatic 28, 3) := by decide +kernel
theorem dX0_become_15 : decode cX0_become 15 = .ok (.aload_n 1, 1) := by decide +kernel
theorem dX0_become_16 : decode cX0_become 16 = .ok (.getfield 15, 3) := by decide +kernel
theorem dX0_become_19 : decode cX0_become 19 = .ok (.iconst 0, 1) := by decide +kernel
theorem dX0_become_20 : decode cX0_become 20 = .ok (.aload_n 0, 1) := by decide +kernel
theorem dX0_become_21 : decode cX0_become 21 = .ok (.getfield 15, 3) := by decide +kernel
theorem dX0_become_24 : decode cX0_become 24 = .ok (.iconst 0, 1) := by decide +kernel
theorem dX0_become_25 : decode cX0_become 25 = .ok (.bipush 48, 2) := by decide +kernel
theorem dX0_become_27 : decode cX0_become 27 = .ok (.invokestatic 28, 3) := by decide +kernel
theorem dX0_become_30 : decode cX0_become 30 = .ok (.aload_n 1, 1) := by decide +kernel
theorem dX0_become_31 : decode cX0_become 31 = .ok (.getfield 18, 3) := by decide +kernel
theorem dX0_become_34 : decode cX0_become 34 = .ok (.iconst 0, 1) := by decide +kernel
theorem dX0_become_35 : decode cX0_become 35 = .ok (.aload_n 0, 1) := by decide +kernel
theorem dX0_become_36 : decode cX0_become 36 = .ok (.getfield 18, 3) := by decide +kernel
theorem dX0_become_39 : decode cX0_become 39 = .ok (.iconst 0, 1) := by decide +kernel
theorem dX0_become_40 : decode cX0_become 40 = .ok (.bipush 30, 2) := by decide +kernel
theorem dX0_become_42 : decode cX0_become 42 = .ok (.invokestatic 28, 3) := by decide +kernel
theorem dX0_become_45 : decode cX0_become 45 = .ok (.aload_n 1, 1) := by decide +kernel
theorem dX0_become_46 : decode cX0_become 46 = .ok (.getfield 21, 3) := by decide +kernel
theorem dX0_become_49 : decode cX0_become 49 = .ok (.iconst 0, 1) := by decide +kernel
theorem dX0_become_50 : decode cX0_become 50 = .ok (.aload_n 0, 1) := by decide +kernel
theorem dX0_become_51 : decode cX0_become 51 = .ok (.getfield 21, 3) := by decide +kernel
theorem dX0_become_54 : decode cX0_become 54 = .ok (.iconst 0, 1) := by decide +kernel
theorem dX0_become_55 : decode cX0_become 55 = .ok (.bipush 10, 2) := by decide +kernel
theorem dX0_become_57 : decode cX0_become 57 = .ok (.invokestatic 28, 3) := by decide +kernel
theorem dX0_become_60 : decode cX0_become 60 = .ok (.aload_n 0, 1) := by decide +kernel
theorem dX0_become_61 : decode cX0_become 61 = .ok (.aload_n 1, 1) := by decide +kernel
theorem dX0_become_62 : decode cX0_become 62 = .ok (.getfield 34, 3) := by decide +kernel
theorem dX0_become_65 : decode cX0_become 65 = .ok (.putfield 34, 3) := by decide +kernel
theorem dX0_become_68 : decode cX0_become 68 = .ok (.aload_n 0, 1) := by decide +kernel
theorem dX0_become_69 : decode cX0_become 69 = .ok (.aload_n 1, 1) := by decide +kernel
theorem dX0_become_70 : decode cX0_become 70 = .ok (.getfield 37, 3) := by decide +kernel
theorem dX0_become_73 : decode cX0_become 73 = .ok (.putfield 37, 3) := by decide +kernel
theorem dX0_become_76 : decode cX0_become 76 = .ok (.aload_n 0, 1) := by decide +kernel
theorem dX0_become_77 : decode cX0_become 77 = .ok (.aload_n 1, 1) := by decide +kernel
theorem dX0_become_78 : decode cX0_become 78 = .ok (.getfield 40, 3) := by decide +kernel
theorem dX0_become_81 : decode cX0_become 81 = .ok (.putfield 40, 3) := by decide +kernel
theorem dX0_become_84 : decode cX0_become 84 = .ok (.aload_n 0, 1) := by decide +kernel
theorem dX0_become_85 : decode cX0_become 85 = .ok (.aload_n 1, 1) := by decide +kernel
theorem dX0_become_86 : decode cX0_become 86 = .ok (.getfield 24, 3) := by decide +kernel
theorem dX0_become_89 : decode cX0_become 89 = .ok (.putfield 24, 3) := by decide +kernel
theorem dX0_become_92 : decode cX0_become 92 = .ok (.return_, 1) := by decide +kernel
theorem dX0_isDish_0 : decode cX0_isDish 0 = .ok (.iload_n 1, 1) := by decide +kernel
theorem dX0_isDish_1 : decode cX0_isDish 1 = .ok (.ifCond .lt 15, 3) := by decide +kernel
theorem dX0_isDish_4 : decode cX0_isDish 4 = .ok (.iload_n 1, 1) := by decide +kernel
theorem dX0_isDish_5 : decode cX0_isDish 5 = .ok (.aload_n 0, 1) := by decide +kernel
theorem dX0_isDish_6 : decode cX0_isDish 6 = .ok (.getfield 34, 3) := by decide +kernel
theorem dX0_isDish_9 : decode cX0_isDish 9 = .ok (.if_icmp .ge 7, 3) := by decide +kernel
theorem dX0_isDish_12 : decode cX0_isDish 12 = .ok (.iconst 1, 1) := by decide +kernel
theorem dX0_isDish_13 : decode cX0_isDish 13 = .ok (.goto 4, 3) := by decide +kernel
theorem dX0_isDish_16 : decode cX0_isDish 16 = .ok (.iconst 0, 1) := by decide +kernel
theorem dX0_isDish_17 : decode cX0_isDish 17 = .ok (.ireturn, 1) := by decide +kernel
theorem dX0_isGuest_0 : decode cX0_isGuest 0 = .ok (.iload_n 1, 1) := by decide +kernel
theorem dX0_isGuest_1 : decode cX0_isGuest 1 = .ok (.ifCond .lt 15, 3) := by decide +kernel
theorem dX0_isGuest_4 : decode cX0_isGuest 4 = .ok (.iload_n 1, 1) := by decide +kernel
theorem dX0_isGuest_5 : decode cX0_isGuest 5 = .ok (.aload_n 0, 1) := by decide +kernel
theorem dX0_isGuest_6 : decode cX0_isGuest 6 = .ok (.getfield 37, 3) := by decide +kernel
theorem dX0_isGuest_9 : decode cX0_isGuest 9 = .ok (.if_icmp .ge 7, 3) := by decide +kernel
theorem dX0_isGuest_12 : decode cX0_isGuest 12 = .ok (.iconst 1, 1) := by decide +kernel
theorem dX0_isGuest_13 : decode cX0_isGuest 13 = .ok (.goto 4, 3) := by decide +kernel
theorem dX0_isGuest_16 : decode cX0_isGuest 16 = .ok (.iconst 0, 1) := by decide +kernel
theorem dX0_isGuest_17 : decode cX0_isGuest 17 = .ok (.ireturn, 1) := by decide +kernel
theorem dX0_dishFact_0 : decode cX0_dishFact 0 = .ok (.aload_n 0, 1) := by decide +kernel
theorem dX0_dishFact_1 : decode cX0_dishFact 1 = .ok (.getfield 15, 3) := by decide +kernel
theorem dX0_dishFact_4 : decode cX0_dishFact 4 = .ok (.iload_n 1, 1) := by decide +kernel
theorem dX0_dishFact_5 : decode cX0_dishFact 5 = .ok (.bipush 6, 2) := by decide +kernel
theorem dX0_dishFact_7 : decode cX0_dishFact 7 = .ok (.imul, 1) := by decide +kernel
theorem dX0_dishFact_8 : decode cX0_dishFact 8 = .ok (.iload_n 2, 1) := by decide +kernel
theorem dX0_dishFact_9 : decode cX0_dishFact 9 = .ok (.iadd, 1) := by decide +kernel
theorem dX0_dishFact_10 : decode cX0_dishFact 10 = .ok (.iaload, 1) := by decide +kernel
theorem dX0_dishFact_11 : decode cX0_dishFact 11 = .ok (.ireturn, 1) := by decide +kernel
theorem dX0_putDishFact_0 : decode cX0_putDishFact 0 = .ok (.aload_n 0, 1) := by decide +kernel
theorem dX0_putDishFact_1 : decode cX0_putDishFact 1 = .ok (.getfield 15, 3) := by decide +kernel
theorem dX0_putDishFact_4 : decode cX0_putDishFact 4 = .ok (.iload_n 1, 1) := by decide +kernel
theorem dX0_putDishFact_5 : decode cX0_putDishFact 5 = .ok (.bipush 6, 2) := by decide +kernel
theorem dX0_putDishFact_7 : decode cX0_putDishFact 7 = .ok (.imul, 1) := by decide +kernel
theorem dX0_putDishFact_8 : decode cX0_putDishFact 8 = .ok (.iload_n 2, 1) := by decide +kernel
theorem dX0_putDishFact_9 : decode cX0_putDishFact 9 = .ok (.iadd, 1) := by decide +kernel
theorem dX0_putDishFact_10 : decode cX0_putDishFact 10 = .ok (.iload_n 3, 1) := by decide +kernel
theorem dX0_putDishFact_11 : decode cX0_putDishFact 11 = .ok (.iastore, 1) := by decide +kernel
theorem dX0_putDishFact_12 : decode cX0_putDishFact 12 = .ok (.return_, 1) := by decide +kernel
theorem dX0_guestFact_0 : decode cX0_guestFact 0 = .ok (.aload_n 0, 1) := by decide +kernel
theorem dX0_guestFact_1 : decode cX0_guestFact 1 = .ok (.getfield 18, 3) := by decide +kernel
theorem dX0_guestFact_4 : decode cX0_guestFact 4 = .ok (.iload_n 1, 1) := by decide +kernel
theorem dX0_guestFact_5 : decode cX0_guestFact 5 = .ok (.iconst 5, 1) := by decide +kernel
theorem dX0_guestFact_6 : decode cX0_guestFact 6 = .ok (.imul, 1) := by decide +kernel
theorem dX0_guestFact_7 : decode cX0_guestFact 7 = .ok (.iload_n 2, 1) := by decide +kernel
theorem dX0_guestFact_8 : decode cX0_guestFact 8 = .ok (.iadd, 1) := by decide +kernel
theorem dX0_guestFact_9 : decode cX0_guestFact 9 = .ok (.iaload, 1) := by decide +kernel
theorem dX0_guestFact_10 : decode cX0_guestFact 10 = .ok (.ireturn, 1) := by decide +kernel
theorem dX0_putGuestFact_0 : decode cX0_putGuestFact 0 = .ok (.aload_n 0, 1) := by decide +kernel
theorem dX0_putGuestFact_1 : decode cX0_putGuestFact 1 = .ok (.getfield 18, 3) := by decide +kernel
theorem dX0_putGuestFact_4 : decode cX0_putGuestFact 4 = .ok (.iload_n 1, 1) := by decide +kernel
theorem dX0_putGuestFact_5 : decode cX0_putGuestFact 5 = .ok (.iconst 5, 1) := by decide +kernel
theorem dX0_putGuestFact_6 : decode cX0_putGuestFact 6 = .ok (.imul, 1) := by decide +kernel
theorem dX0_putGuestFact_7 : decode cX0_putGuestFact 7 = .ok (.iload_n 2, 1) := by decide +kernel
theorem dX0_putGuestFact_8 : decode cX0_putGuestFact 8 = .ok (.iadd, 1) := by decide +kernel
theorem dX0_putGuestFact_9 : decode cX0_putGuestFact 9 = .ok (.iload_n 3, 1) := by decide +kernel
theorem dX0_putGuestFact_10 : decode cX0_putGuestFact 10 = .ok (.iastore, 1) := by decide +kernel
theorem dX0_putGuestFact_11 : decode cX0_putGuestFact 11 = .ok (.return_, 1) := by decide +kernel
theorem dX0_isOff_0 : decode cX0_isOff 0 = .ok (.aload_n 0, 1) := by decide +kernel
theorem dX0_isOff_1 : decode cX0_isOff 1 = .ok (.iload_n 1, 1) := by decide +kernel
theorem dX0_isOff_2 : decode cX0_isOff 2 = .ok (.iconst 5, 1) := by decide +kernel
theorem dX0_isOff_3 : decode cX0_isOff 3 = .ok (.invokevirtual 43, 3) := by decide +kernel
theorem dX0_isOff_6 : decode cX0_isOff 6 = .ok (.iconst 1, 1) := by decide +kernel
theorem dX0_isOff_7 : decode cX0_isOff 7 = .ok (.if_icmp .ne 7, 3) := by decide +kernel
theorem dX0_isOff_10 : decode cX0_isOff 10 = .ok (.iconst 1, 1) := by decide +kernel
theorem dX0_isOff_11 : decode cX0_isOff 11 = .ok (.goto 4, 3) := by decide +kernel
theorem dX0_isOff_14 : decode cX0_isOff 14 = .ok (.iconst 0, 1) := by decide +kernel
theorem dX0_isOff_15 : decode cX0_isOff 15 = .ok (.ireturn, 1) := by decide +kernel
theorem dX0_addDish_0 : decode cX0_addDish 0 = .ok (.aload_n 0, 1) := by decide +kernel
theorem dX0_addDish_1 : decode cX0_addDish 1 = .ok (.getfield 34, 3) := by decide +kernel
theorem dX0_addDish_4 : decode cX0_addDish 4 = .ok (.istore 4, 2) := by decide +kernel
theorem dX0_addDish_6 : decode cX0_addDish 6 = .ok (.aload_n 0, 1) := by decide +kernel
theorem dX0_addDish_7 : decode cX0_addDish 7 = .ok (.dup, 1) := by decide +kernel
theorem dX0_addDish_8 : decode cX0_addDish 8 = .ok (.getfield 34, 3) := by decide +kernel
theorem dX0_addDish_11 : decode cX0_addDish 11 = .ok (.iconst 1, 1) := by decide +kernel
theorem dX0_addDish_12 : decode cX0_addDish 12 = .ok (.iadd, 1) := by decide +kernel
theorem dX0_addDish_13 : decode cX0_addDish 13 = .ok (.putfield 34, 3) := by decide +kernel
theorem dX0_addDish_16 : decode cX0_addDish 16 = .ok (.aload_n 0, 1) := by decide +kernel
theorem dX0_addDish_17 : decode cX0_addDish 17 = .ok (.iload 4, 2) := by decide +kernel
theorem dX0_addDish_19 : decode cX0_addDish 19 = .ok (.iconst 0, 1) := by decide +kernel
theorem dX0_addDish_20 : decode cX0_addDish 20 = .ok (.iload_n 1, 1) := by decide +kernel
theorem dX0_addDish_21 : decode cX0_addDish 21 = .ok (.invokevirtual 47, 3) := by decide +kernel
theorem dX0_addDish_24 : decode cX0_addDish 24 = .ok (.aload_n 0, 1) := by decide +kernel
theorem dX0_addDish_25 : decode cX0_addDish 25 = .ok (.iload 4, 2) := by decide +kernel
theorem dX0_addDish_27 : decode cX0_addDish 27 = .ok (.iconst 1, 1) := by decide +kernel
theorem dX0_addDish_28 : decode cX0_addDish 28 = .ok (.iload_n 2, 1) := by decide +kernel
theorem dX0_addDish_29 : decode cX0_addDish 29 = .ok (.invokevirtual 47, 3) := by decide +kernel
theorem dX0_addDish_32 : decode cX0_addDish 32 = .ok (.aload_n 0, 1) := by decide +kernel
theorem dX0_addDish_33 : decode cX0_addDish 33 = .ok (.iload 4, 2) := by decide +kernel
theorem dX0_addDish_35 : decode cX0_addDish 35 = .ok (.iconst 2, 1) := by decide +kernel
theorem dX0_addDish_36 : decode cX0_addDish 36 = .ok (.iload_n 3, 1) := by decide +kernel
theorem dX0_addDish_37 : decode cX0_addDish 37 = .ok (.invokevirtual 47, 3) := by decide +kernel
theorem dX0_addDish_40 : decode cX0_addDish 40 = .ok (.aload_n 0, 1) := by decide +kernel
theorem dX0_addDish_41 : decode cX0_addDish 41 = .ok (.iload 4, 2) := by decide +kernel
theorem dX0_addDish_43 : decode cX0_addDish 43 = .ok (.iconst 3, 1) := by decide +kernel
theorem dX0_addDish_44 : decode cX0_addDish 44 = .ok (.bipush 10, 2) := by decide +kernel
theorem dX0_addDish_46 : decode cX0_addDish 46 = .ok (.invokevirtual 47, 3) := by decide +kernel
theorem dX0_addDish_49 : decode cX0_addDish 49 = .ok (.aload_n 0, 1) := by decide +kernel
theorem dX0_addDish_50 : decode cX0_addDish 50 = .ok (.iload 4, 2) := by decide +kernel
theorem dX0_addDish_52 : decode cX0_addDish 52 = .ok (.iconst 4, 1) := by decide +kernel
theorem dX0_addDish_53 : decode cX0_addDish 53 = .ok (.iconst 0, 1) := by decide +kernel
theorem dX0_addDish_54 : decode cX0_addDish 54 = .ok (.invokevirtual 47, 3) := by decide +kernel
theorem dX0_addDish_57 : decode cX0_addDish 57 = .ok (.aload_n 0, 1) := by decide +kernel
theorem dX0_addDish_58 : decode cX0_addDish 58 = .ok (.iload 4, 2) := by decide +kernel
theorem dX0_addDish_60 : decode cX0_addDish 60 = .ok (.iconst 5, 1) := by decide +kernel
theorem dX0_addDish_61 : decode cX0_addDish 61 = .ok (.iconst 0, 1) := by decide +kernel
theorem dX0_addDish_62 : decode cX0_addDish 62 = .ok (.invokevirtual 47, 3) := by decide +kernel
theorem dX0_addDish_65 : decode cX0_addDish 65 = .ok (.iload 4, 2) := by decide +kernel
theorem dX0_addDish_67 : decode cX0_addDish 67 = .ok (.ireturn, 1) := by decide +kernel
theorem dX0_addGuest_0 : decode cX0_addGuest 0 = .ok (.aload_n 0, 1) := by decide +kernel
theorem dX0_addGuest_1 : decode cX0_addGuest 1 = .ok (.getfield 37, 3) := by decide +kernel
theorem dX0_addGuest_4 : decode cX0_addGuest 4 = .ok (.istore_n 2, 1) := by decide +kernel
theorem dX0_addGuest_5 : decode cX0_addGuest 5 = .ok (.aload_n 0, 1) := by decide +kernel
theorem dX0_addGuest_6 : decode cX0_addGuest 6 = .ok (.dup, 1) := by decide +kernel
theorem dX0_addGuest_7 : decode cX0_addGuest 7 = .ok (.getfield 37, 3) := by decide +kernel
theorem dX0_addGuest_10 : decode cX0_addGuest 10 = .ok (.iconst 1, 1) := by decide +kernel
theorem dX0_addGuest_11 : decode cX0_addGuest 11 = .ok (.iadd, 1) := by decide +kernel
theorem dX0_addGuest_12 : decode cX0_addGuest 12 = .ok (.putfield 37, 3) := by decide +kernel
theorem dX0_addGuest_15 : decode cX0_addGuest 15 = .ok (.aload_n 0, 1) := by decide +kernel
theorem dX0_addGuest_16 : decode cX0_addGuest 16 = .ok (.iload_n 2, 1) := by decide +kernel
theorem dX0_addGuest_17 : decode cX0_addGuest 17 = .ok (.iconst 0, 1) := by decide +kernel
theorem dX0_addGuest_18 : decode cX0_addGuest 18 = .ok (.iload_n 1, 1) := by decide +kernel
theorem dX0_addGuest_19 : decode cX0_addGuest 19 = .ok (.invokevirtual 51, 3) := by decide +kernel
theorem dX0_addGuest_22 : decode cX0_addGuest 22 = .ok (.aload_n 0, 1) := by decide +kernel
theorem dX0_addGuest_23 : decode cX0_addGuest 23 = .ok (.iload_n 2, 1) := by decide +kernel
theorem dX0_addGuest_24 : decode cX0_addGuest 24 = .ok (.iconst 1, 1) := by decide +kernel
theorem dX0_addGuest_25 : decode cX0_addGuest 25 = .ok (.iconst 0, 1) := by decide +kernel
theorem dX0_addGuest_26 : decode cX0_addGuest 26 = .ok (.invokevirtual 51, 3) := by decide +kernel
theorem dX0_addGuest_29 : decode cX0_addGuest 29 = .ok (.aload_n 0, 1) := by decide +kernel
theorem dX0_addGuest_30 : decode cX0_addGuest 30 = .ok (.iload_n 2, 1) := by decide +kernel
theorem dX0_addGuest_31 : decode cX0_addGuest 31 = .ok (.iconst 2, 1) := by decide +kernel
theorem dX0_addGuest_32 : decode cX0_addGuest 32 = .ok (.iconst 0, 1) := by decide +kernel
theorem dX0_addGuest_33 : decode cX0_addGuest 33 = .ok (.invokevirtual 51, 3) := by decide +kernel
theorem dX0_addGuest_36 : decode cX0_addGuest 36 = .ok (.aload_n 0, 1) := by decide +kernel
theorem dX0_addGuest_37 : decode cX0_addGuest 37 = .ok (.iload_n 2, 1) := by decide +kernel
theorem dX0_addGuest_38 : decode cX0_addGuest 38 = .ok (.iconst 3, 1) := by decide +kernel
theorem dX0_addGuest_39 : decode cX0_addGuest 39 = .ok (.iconst 0, 1) := by decide +kernel
theorem dX0_addGuest_40 : decode cX0_addGuest 40 = .ok (.invokevirtual 51, 3) := by decide +kernel
theorem dX0_addGuest_43 : decode cX0_addGuest 43 = .ok (.aload_n 0, 1) := by decide +kernel
theorem dX0_addGuest_44 : decode cX0_addGuest 44 = .ok (.iload_n 2, 1) := by decide +kernel
theorem dX0_addGuest_45 : decode cX0_addGuest 45 = .ok (.iconst 4, 1) := by decide +kernel
theorem dX0_addGuest_46 : decode cX0_addGuest 46 = .ok (.iconst 0, 1) := by decide +kernel
theorem dX0_addGuest_47 : decode cX0_addGuest 47 = .ok (.invokevirtual 51, 3) := by decide +kernel
theorem dX0_addGuest_50 : decode cX0_addGuest 50 = .ok (.iload_n 2, 1) := by decide +kernel
theorem dX0_addGuest_51 : decode cX0_addGuest 51 = .ok (.ireturn, 1) := by decide +kernel
theorem dX0_planMeal_0 : decode cX0_planMeal 0 = .ok (.aload_n 0, 1) := by decide +kernel
theorem dX0_planMeal_1 : decode cX0_planMeal 1 = .ok (.getfield 11, 3) := by decide +kernel
theorem dX0_planMeal_4 : decode cX0_planMeal 4 = .ok (.iload_n 1, 1) := by decide +kernel
theorem dX0_planMeal_5 : decode cX0_planMeal 5 = .ok (.bipush 10, 2) := by decide +kernel
theorem dX0_planMeal_7 : decode cX0_planMeal 7 = .ok (.iload_n 2, 1) := by decide +kernel
theorem dX0_planMeal_8 : decode cX0_planMeal 8 = .ok (.imul, 1) := by decide +kernel
theorem dX0_planMeal_9 : decode cX0_planMeal 9 = .ok (.iload_n 3, 1) := by decide +kernel
theorem dX0_planMeal_10 : decode cX0_planMeal 10 = .ok (.iadd, 1) := by decide +kernel
theorem dX0_planMeal_11 : decode cX0_planMeal 11 = .ok (.iastore, 1) := by decide +kernel
theorem dX0_planMeal_12 : decode cX0_planMeal 12 = .ok (.return_, 1) := by decide +kernel
theorem dX0_guestOfMeal_0 : decode cX0_guestOfMeal 0 = .ok (.iload_n 0, 1) := by decide +kernel
theorem dX0_guestOfMeal_1 : decode cX0_guestOfMeal 1 = .ok (.bipush 10, 2) := by decide +kernel
theorem dX0_guestOfMeal_3 : decode cX0_guestOfMeal 3 = .ok (.idiv, 1) := by decide +kernel
theorem dX0_guestOfMeal_4 : decode cX0_guestOfMeal 4 = .ok (.ireturn, 1) := by decide +kernel
theorem dX0_dishOfMeal_0 : decode cX0_dishOfMeal 0 = .ok (.iload_n 0, 1) := by decide +kernel
theorem dX0_dishOfMeal_1 : decode cX0_dishOfMeal 1 = .ok (.bipush 10, 2) := by decide +kernel
theorem dX0_dishOfMeal_3 : decode cX0_dishOfMeal 3 = .ok (.irem, 1) := by decide +kernel
theorem dX0_dishOfMeal_4 : decode cX0_dishOfMeal 4 = .ok (.ireturn, 1) := by decide +kernel
theorem dX0_isUnder_0 : decode cX0_isUnder 0 = .ok (.iload_n 0, 1) := by decide +kernel
theorem dX0_isUnder_1 : decode cX0_isUnder 1 = .ok (.istore_n 2, 1) := by decide +kernel
theorem dX0_isUnder_2 : decode cX0_isUnder 2 = .ok (.iconst 0, 1) := by decide +kernel
theorem dX0_isUnder_3 : decode cX0_isUnder 3 = .ok (.istore_n 3, 1) := by decide +kernel
theorem dX0_isUnder_4 : decode cX0_isUnder 4 = .ok (.iload_n 3, 1) := by decide +kernel
theorem dX0_isUnder_5 : decode cX0_isUnder 5 = .ok (.bipush 7, 2) := by decide +kernel
theorem dX0_isUnder_7 : decode cX0_isUnder 7 = .ok (.if_icmp .ge 26, 3) := by decide +kernel
theorem dX0_isUnder_10 : decode cX0_isUnder 10 = .ok (.iload_n 2, 1) := by decide +kernel
theorem dX0_isUnder_11 : decode cX0_isUnder 11 = .ok (.ifCond .lt 22, 3) := by decide +kernel
theorem dX0_isUnder_14 : decode cX0_isUnder 14 = .ok (.iload_n 2, 1) := by decide +kernel
theorem dX0_isUnder_15 : decode cX0_isUnder 15 = .ok (.iload_n 1, 1) := by decide +kernel
theorem dX0_isUnder_16 : decode cX0_isUnder 16 = .ok (.if_icmp .ne 5, 3) := by decide +kernel
theorem dX0_isUnder_19 : decode cX0_isUnder 19 = .ok (.iconst 1, 1) := by decide +kernel
theorem dX0_isUnder_20 : decode cX0_isUnder 20 = .ok (.ireturn, 1) := by decide +kernel
theorem dX0_isUnder_21 : decode cX0_isUnder 21 = .ok (.getstatic 54, 3) := by decide +kernel
theorem dX0_isUnder_24 : decode cX0_isUnder 24 = .ok (.iload_n 2, 1) := by decide +kernel
theorem dX0_isUnder_25 : decode cX0_isUnder 25 = .ok (.iaload, 1) := by decide +kernel
theorem dX0_isUnder_26 : decode cX0_isUnder 26 = .ok (.istore_n 2, 1) := by decide +kernel
theorem dX0_isUnder_27 : decode cX0_isUnder 27 = .ok (.iinc 3 1, 3) := by decide +kernel
theorem dX0_isUnder_30 : decode cX0_isUnder 30 = .ok (.goto (-26), 3) := by decide +kernel
theorem dX0_isUnder_33 : decode cX0_isUnder 33 = .ok (.iconst 0, 1) := by decide +kernel
theorem dX0_isUnder_34 : decode cX0_isUnder 34 = .ok (.ireturn, 1) := by decide +kernel
theorem dX0_takesLeft_0 : decode cX0_takesLeft 0 = .ok (.aload_n 0, 1) := by decide +kernel
theorem dX0_takesLeft_1 : decode cX0_takesLeft 1 = .ok (.iload_n 1, 1) := by decide +kernel
theorem dX0_takesLeft_2 : decode cX0_takesLeft 2 = .ok (.iconst 0, 1) := by decide +kernel
theorem dX0_takesLeft_3 : decode cX0_takesLeft 3 = .ok (.invokevirtual 57, 3) := by decide +kernel
theorem dX0_takesLeft_6 : decode cX0_takesLeft 6 = .ok (.istore_n 3, 1) := by decide +kernel
theorem dX0_takesLeft_7 : decode cX0_takesLeft 7 = .ok (.iload_n 3, 1) := by decide +kernel
theorem dX0_takesLeft_8 : decode cX0_takesLeft 8 = .ok (.iconst 2, 1) := by decide +kernel
theorem dX0_takesLeft_9 : decode cX0_takesLeft 9 = .ok (.irem, 1) := by decide +kernel
theorem dX0_takesLeft_10 : decode cX0_takesLeft 10 = .ok (.ifCond .ne 7, 3) := by decide +kernel
theorem dX0_takesLeft_13 : decode cX0_takesLeft 13 = .ok (.iconst 1, 1) := by decide +kernel
theorem dX0_takesLeft_14 : decode cX0_takesLeft 14 = .ok (.goto 4, 3) := by decide +kernel
theorem dX0_takesLeft_17 : decode cX0_takesLeft 17 = .ok (.iconst 0, 1) := by decide +kernel
theorem dX0_takesLeft_18 : decode cX0_takesLeft 18 = .ok (.istore 4, 2) := by decide +kernel
theorem dX0_takesLeft_20 : decode cX0_takesLeft 20 = .ok (.aload_n 0, 1) := by decide +kernel
theorem dX0_takesLeft_21 : decode cX0_takesLeft 21 = .ok (.iload_n 2, 1) := by decide +kernel
theorem dX0_takesLeft_22 : decode cX0_takesLeft 22 = .ok (.iconst 4, 1) := by decide +kernel
theorem dX0_takesLeft_23 : decode cX0_takesLeft 23 = .ok (.invokevirtual 43, 3) := by decide +kernel
theorem dX0_takesLeft_26 : decode cX0_takesLeft 26 = .ok (.iconst 2, 1) := by decide +kernel
theorem dX0_takesLeft_27 : decode cX0_takesLeft 27 = .ok (.irem, 1) := by decide +kernel
theorem dX0_takesLeft_28 : decode cX0_takesLeft 28 = .ok (.ifCond .ne 7, 3) := by decide +kernel
theorem dX0_takesLeft_31 : decode cX0_takesLeft 31 = .ok (.iconst 1, 1) := by decide +kernel
theorem dX0_takesLeft_32 : decode cX0_takesLeft 32 = .ok (.goto 4, 3) := by decide +kernel
theorem dX0_takesLeft_35 : decode cX0_takesLeft 35 = .ok (.iconst 0, 1) := by decide +kernel
theorem dX0_takesLeft_36 : decode cX0_takesLeft 36 = .ok (.istore 5, 2) := by decide +kernel
theorem dX0_takesLeft_38 : decode cX0_takesLeft 38 = .ok (.aload_n 0, 1) := by decide +kernel
theorem dX0_takesLeft_39 : decode cX0_takesLeft 39 = .ok (.iload_n 2, 1) := by decide +kernel
theorem dX0_takesLeft_40 : decode cX0_takesLeft 40 = .ok (.iconst 0, 1) := by decide +kernel
theorem dX0_takesLeft_41 : decode cX0_takesLeft 41 = .ok (.invokevirtual 43, 3) := by decide +kernel
theorem dX0_takesLeft_44 : decode cX0_takesLeft 44 = .ok (.tableswitch 99 1 6 #[40, 56, 68, 94, 97, 43], 40) := by decide +kernel
theorem dX0_takesLeft_84 : decode cX0_takesLeft 84 = .ok (.iload 4, 2) := by decide +kernel
theorem dX0_takesLeft_86 : decode cX0_takesLeft 86 = .ok (.ireturn, 1) := by decide +kernel
theorem dX0_takesLeft_87 : decode cX0_takesLeft 87 = .ok (.iload 4, 2) := by decide +kernel
theorem dX0_takesLeft_89 : decode cX0_takesLeft 89 = .ok (.iload 5, 2) := by decide +kernel
theorem dX0_takesLeft_91 : decode cX0_takesLeft 91 = .ok (.if_icmp .ne 7, 3) := by decide +kernel
theorem dX0_takesLeft_94 : decode cX0_takesLeft 94 = .ok (.iconst 1, 1) := by decide +kernel
theorem dX0_takesLeft_95 : decode cX0_takesLeft 95 = .ok (.goto 4, 3) := by decide +kernel
theorem dX0_takesLeft_98 : decode cX0_takesLeft 98 = .ok (.iconst 0, 1) := by decide +kernel
theorem dX0_takesLeft_99 : decode cX0_takesLeft 99 = .ok (.ireturn, 1) := by decide +kernel
theorem dX0_takesLeft_100 : decode cX0_takesLeft 100 = .ok (.iload_n 3, 1) := by decide +kernel
theorem dX0_takesLeft_101 : decode cX0_takesLeft 101 = .ok (.bipush 30, 2) := by decide +kernel
theorem dX0_takesLeft_103 : decode cX0_takesLeft 103 = .ok (.if_icmp .ge 7, 3) := by decide +kernel
theorem dX0_takesLeft_106 : decode cX0_takesLeft 106 = .ok (.iconst 1, 1) := by decide +kernel
theorem dX0_takesLeft_107 : decode cX0_takesLeft 107 = .ok (.goto 4, 3) := by decide +kernel
theorem dX0_takesLeft_110 : decode cX0_takesLeft 110 = .ok (.iconst 0, 1) := by decide +kernel
theorem dX0_takesLeft_111 : decode cX0_takesLeft 111 = .ok (.ireturn, 1) := by decide +kernel
theorem dX0_takesLeft_112 : decode cX0_takesLeft 112 = .ok (.iload_n 3, 1) := by decide +kernel
theorem dX0_takesLeft_113 : decode cX0_takesLeft 113 = .ok (.bipush 30, 2) := by decide +kernel
theorem dX0_takesLeft_115 : decode cX0_takesLeft 115 = .ok (.if_icmp .lt 17, 3) := by decide +kernel
theorem dX0_takesLeft_118 : decode cX0_takesLeft 118 = .ok (.aload_n 0, 1) := by decide +kernel
theorem dX0_takesLeft_119 : decode cX0_takesLeft 119 = .ok (.iload_n 1, 1) := by decide +kernel
theorem dX0_takesLeft_120 : decode cX0_takesLeft 120 = .ok (.aload_n 0, 1) := by decide +kernel
theorem dX0_takesLeft_121 : decode cX0_takesLeft 121 = .ok (.iload_n 2, 1) := by decide +kernel
theorem dX0_takesLeft_122 : decode cX0_takesLeft 122 = .ok (.iconst 2, 1) := by decide +kernel
theorem dX0_takesLeft_123 : decode cX0_takesLeft 123 = .ok (.invokevirtual 43, 3) := by decide +kernel
theorem dX0_takesLeft_126 : decode cX0_takesLeft 126 = .ok (.invokevirtual 60, 3) := by decide +kernel
theorem dX0_takesLeft_129 : decode cX0_takesLeft 129 = .ok (.ifCond .eq 7, 3) := by decide +kernel
theorem dX0_takesLeft_132 : decode cX0_takesLeft 132 = .ok (.iconst 1, 1) := by decide +kernel
theorem dX0_takesLeft_133 : decode cX0_takesLeft 133 = .ok (.goto 4, 3) := by decide +kernel
theorem dX0_takesLeft_136 : decode cX0_takesLeft 136 = .ok (.iconst 0, 1) := by decide +kernel
theorem dX0_takesLeft_137 : decode cX0_takesLeft 137 = .ok (.ireturn, 1) := by decide +kernel
theorem dX0_takesLeft_138 : decode cX0_takesLeft 138 = .ok (.iload 5, 2) := by decide +kernel
theorem dX0_takesLeft_140 : decode cX0_takesLeft 140 = .ok (.ireturn, 1) := by decide +kernel
theorem dX0_takesLeft_141 : decode cX0_takesLeft 141 = .ok (.iconst 1, 1) := by decide +kernel
theorem dX0_takesLeft_142 : decode cX0_takesLeft 142 = .ok (.ireturn, 1) := by decide +kernel
theorem dX0_takesLeft_143 : decode cX0_takesLeft 143 = .ok (.iload_n 3, 1) := by decide +kernel
theorem dX0_takesLeft_144 : decode cX0_takesLeft 144 = .ok (.bipush 50, 2) := by decide +kernel
theorem dX0_takesLeft_146 : decode cX0_takesLeft 146 = .ok (.if_icmp .ge 7, 3) := by decide +kernel
theorem dX0_takesLeft_149 : decode cX0_takesLeft 149 = .ok (.iconst 1, 1) := by decide +kernel
theorem dX0_takesLeft_150 : decode cX0_takesLeft 150 = .ok (.goto 4, 3) := by decide +kernel
theorem dX0_takesLeft_153 : decode cX0_takesLeft 153 = .ok (.iconst 0, 1) := by decide +kernel
theorem dX0_takesLeft_154 : decode cX0_takesLeft 154 = .ok (.ireturn, 1) := by decide +kernel
theorem dX0_anotherIsFor_0 : decode cX0_anotherIsFor 0 = .ok (.iconst 0, 1) := by decide +kernel
theorem dX0_anotherIsFor_1 : decode cX0_anotherIsFor 1 = .ok (.istore_n 3, 1) := by decide +kernel
theorem dX0_anotherIsFor_2 : decode cX0_anotherIsFor 2 = .ok (.iload_n 3, 1) := by decide +kernel
theorem dX0_anotherIsFor_3 : decode cX0_anotherIsFor 3 = .ok (.aload_n 0, 1) := by decide +kernel
theorem dX0_anotherIsFor_4 : decode cX0_anotherIsFor 4 = .ok (.getfield 37, 3) := by decide +kernel
theorem dX0_anotherIsFor_7 : decode cX0_anotherIsFor 7 = .ok (.if_icmp .ge 30, 3) := by decide +kernel
theorem dX0_anotherIsFor_10 : decode cX0_anotherIsFor 10 = .ok (.iload_n 3, 1) := by decide +kernel
theorem dX0_anotherIsFor_11 : decode cX0_anotherIsFor 11 = .ok (.iload_n 1, 1) := by decide +kernel
theorem dX0_anotherIsFor_12 : decode cX0_anotherIsFor 12 = .ok (.if_icmp .eq 19, 3) := by decide +kernel
theorem dX0_anotherIsFor_15 : decode cX0_anotherIsFor 15 = .ok (.aload_n 0, 1) := by decide +kernel
theorem dX0_anotherIsFor_16 : decode cX0_anotherIsFor 16 = .ok (.getfield 18, 3) := by decide +kernel
theorem dX0_anotherIsFor_19 : decode cX0_anotherIsFor 19 = .ok (.iload_n 3, 1) := by decide +kernel
theorem dX0_anotherIsFor_20 : decode cX0_anotherIsFor 20 = .ok (.iconst 5, 1) := by decide +kernel
theorem dX0_anotherIsFor_21 : decode cX0_anotherIsFor 21 = .ok (.imul, 1) := by decide +kernel
theorem dX0_anotherIsFor_22 : decode cX0_anotherIsFor 22 = .ok (.iconst 1, 1) := by decide +kernel
theorem dX0_anotherIsFor_23 : decode cX0_anotherIsFor 23 = .ok (.iadd, 1) := by decide +kernel
theorem dX0_anotherIsFor_24 : decode cX0_anotherIsFor 24 = .ok (.iaload, 1) := by decide +kernel
theorem dX0_anotherIsFor_25 : decode cX0_anotherIsFor 25 = .ok (.iload_n 2, 1) := by decide +kernel
theorem dX0_anotherIsFor_26 : decode cX0_anotherIsFor 26 = .ok (.if_icmp .ne 5, 3) := by decide +kernel
theorem dX0_anotherIsFor_29 : decode cX0_anotherIsFor 29 = .ok (.iconst 1, 1) := by decide +kernel
theorem dX0_anotherIsFor_30 : decode cX0_anotherIsFor 30 = .ok (.ireturn, 1) := by decide +kernel
theorem dX0_anotherIsFor_31 : decode cX0_anotherIsFor 31 = .ok (.iinc 3 1, 3) := by decide +kernel
theorem dX0_anotherIsFor_34 : decode cX0_anotherIsFor 34 = .ok (.goto (-32), 3) := by decide +kernel
theorem dX0_anotherIsFor_37 : decode cX0_anotherIsFor 37 = .ok (.iconst 0, 1) := by decide +kernel
theorem dX0_anotherIsFor_38 : decode cX0_anotherIsFor 38 = .ok (.ireturn, 1) := by decide +kernel
theorem dX0_bendOf_0 : decode cX0_bendOf 0 = .ok (.iload_n 1, 1) := by decide +kernel
theorem dX0_bendOf_1 : decode cX0_bendOf 1 = .ok (.ifCond .eq 8, 3) := by decide +kernel
theorem dX0_bendOf_4 : decode cX0_bendOf 4 = .ok (.bipush (-5), 2) := by decide +kernel
theorem dX0_bendOf_6 : decode cX0_bendOf 6 = .ok (.goto 4, 3) := by decide +kernel
theorem dX0_bendOf_9 : decode cX0_bendOf 9 = .ok (.iconst 5, 1) := by decide +kernel
theorem dX0_bendOf_10 : decode cX0_bendOf 10 = .ok (.istore_n 2, 1) := by decide +kernel
theorem dX0_bendOf_11 : decode cX0_bendOf 11 = .ok (.iload_n 0, 1) := by decide +kernel
theorem dX0_bendOf_12 : decode cX0_bendOf 12 = .ok (.tableswitch 65 1 6 #[40, 46, 50, 56, 63, 44], 40) := by decide +kernel
theorem dX0_bendOf_52 : decode cX0_bendOf 52 = .ok (.iload_n 2, 1) := by decide +kernel
theorem dX0_bendOf_53 : decode cX0_bendOf 53 = .ok (.iconst 1, 1) := by decide +kernel
theorem dX0_bendOf_54 : decode cX0_bendOf 54 = .ok (.isub, 1) := by decide +kernel
theorem dX0_bendOf_55 : decode cX0_bendOf 55 = .ok (.ireturn, 1) := by decide +kernel
theorem dX0_bendOf_56 : decode cX0_bendOf 56 = .ok (.iconst 1, 1) := by decide +kernel
theorem dX0_bendOf_57 : decode cX0_bendOf 57 = .ok (.ireturn, 1) := by decide +kernel
theorem dX0_bendOf_58 : decode cX0_bendOf 58 = .ok (.iconst 2, 1) := by decide +kernel
theorem dX0_bendOf_59 : decode cX0_bendOf 59 = .ok (.iload_n 2, 1) := by decide +kernel
theorem dX0_bendOf_60 : decode cX0_bendOf 60 = .ok (.imul, 1) := by decide +kernel
theorem dX0_bendOf_61 : decode cX0_bendOf 61 = .ok (.ireturn, 1) := by decide +kernel
theorem dX0_bendOf_62 : decode cX0_bendOf 62 = .ok (.iconst 2, 1) := by decide +kernel
theorem dX0_bendOf_63 : decode cX0_bendOf 63 = .ok (.iload_n 2, 1) := by decide +kernel
theorem dX0_bendOf_64 : decode cX0_bendOf 64 = .ok (.imul, 1) := by decide +kernel
theorem dX0_bendOf_65 : decode cX0_bendOf 65 = .ok (.iconst 3, 1) := by decide +kernel
theorem dX0_bendOf_66 : decode cX0_bendOf 66 = .ok (.iadd, 1) := by decide +kernel
theorem dX0_bendOf_67 : decode cX0_bendOf 67 = .ok (.ireturn, 1) := by decide +kernel
theorem dX0_bendOf_68 : decode cX0_bendOf 68 = .ok (.bipush (-2), 2) := by decide +kernel
theorem dX0_bendOf_70 : decode cX0_bendOf 70 = .ok (.iload_n 2, 1) := by decide +kernel
theorem dX0_bendOf_71 : decode cX0_bendOf 71 = .ok (.imul, 1) := by decide +kernel
theorem dX0_bendOf_72 : decode cX0_bendOf 72 = .ok (.iconst 3, 1) := by decide +kernel
theorem dX0_bendOf_73 : decode cX0_bendOf 73 = .ok (.iadd, 1) := by decide +kernel
theorem dX0_bendOf_74 : decode cX0_bendOf 74 = .ok (.ireturn, 1) := by decide +kernel
theorem dX0_bendOf_75 : decode cX0_bendOf 75 = .ok (.iconst 0, 1) := by decide +kernel
theorem dX0_bendOf_76 : decode cX0_bendOf 76 = .ok (.ireturn, 1) := by decide +kernel
theorem dX0_bendOf_77 : decode cX0_bendOf 77 = .ok (.iload_n 2, 1) := by decide +kernel
theorem dX0_bendOf_78 : decode cX0_bendOf 78 = .ok (.ireturn, 1) := by decide +kernel
theorem dX0_costOf_0 : decode cX0_costOf 0 = .ok (.aload_n 0, 1) := by decide +kernel
theorem dX0_costOf_1 : decode cX0_costOf 1 = .ok (.iload_n 2, 1) := by decide +kernel
theorem dX0_costOf_2 : decode cX0_costOf 2 = .ok (.iconst 3, 1) := by decide +kernel
theorem dX0_costOf_3 : decode cX0_costOf 3 = .ok (.invokevirtual 43, 3) := by decide +kernel
theorem dX0_costOf_6 : decode cX0_costOf 6 = .ok (.istore 4, 2) := by decide +kernel
theorem dX0_costOf_8 : decode cX0_costOf 8 = .ok (.iload 4, 2) := by decide +kernel
theorem dX0_costOf_10 : decode cX0_costOf 10 = .ok (.aload_n 0, 1) := by decide +kernel
theorem dX0_costOf_11 : decode cX0_costOf 11 = .ok (.iload_n 1, 1) := by decide +kernel
theorem dX0_costOf_12 : decode cX0_costOf 12 = .ok (.iconst 0, 1) := by decide +kernel
theorem dX0_costOf_13 : decode cX0_costOf 13 = .ok (.invokevirtual 57, 3) := by decide +kernel
theorem dX0_costOf_16 : decode cX0_costOf 16 = .ok (.bipush 10, 2) := by decide +kernel
theorem dX0_costOf_18 : decode cX0_costOf 18 = .ok (.idiv, 1) := by decide +kernel
theorem dX0_costOf_19 : decode cX0_costOf 19 = .ok (.iadd, 1) := by decide +kernel
theorem dX0_costOf_20 : decode cX0_costOf 20 = .ok (.istore 5, 2) := by decide +kernel
theorem dX0_costOf_22 : decode cX0_costOf 22 = .ok (.aload_n 0, 1) := by decide +kernel
theorem dX0_costOf_23 : decode cX0_costOf 23 = .ok (.iload_n 2, 1) := by decide +kernel
theorem dX0_costOf_24 : decode cX0_costOf 24 = .ok (.iconst 0, 1) := by decide +kernel
theorem dX0_costOf_25 : decode cX0_costOf 25 = .ok (.invokevirtual 43, 3) := by decide +kernel
theorem dX0_costOf_28 : decode cX0_costOf 28 = .ok (.tableswitch 73 1 6 #[40, 51, 54, 59, 73, 49], 40) := by decide +kernel
theorem dX0_costOf_68 : decode cX0_costOf 68 = .ok (.iload 4, 2) := by decide +kernel
theorem dX0_costOf_70 : decode cX0_costOf 70 = .ok (.iconst 2, 1) := by decide +kernel
theorem dX0_costOf_71 : decode cX0_costOf 71 = .ok (.isub, 1) := by decide +kernel
theorem dX0_costOf_72 : decode cX0_costOf 72 = .ok (.iconst 0, 1) := by decide +kernel
theorem dX0_costOf_73 : decode cX0_costOf 73 = .ok (.invokestatic 64, 3) := by decide +kernel
theorem dX0_costOf_76 : decode cX0_costOf 76 = .ok (.ireturn, 1) := by decide +kernel
theorem dX0_costOf_77 : decode cX0_costOf 77 = .ok (.iconst 1, 1) := by decide +kernel
theorem dX0_costOf_78 : decode cX0_costOf 78 = .ok (.ireturn, 1) := by decide +kernel
theorem dX0_costOf_79 : decode cX0_costOf 79 = .ok (.iload 5, 2) := by decide +kernel
theorem dX0_costOf_81 : decode cX0_costOf 81 = .ok (.ireturn, 1) := by decide +kernel
theorem dX0_costOf_82 : decode cX0_costOf 82 = .ok (.iconst 2, 1) := by decide +kernel
theorem dX0_costOf_83 : decode cX0_costOf 83 = .ok (.iload 5, 2) := by decide +kernel
theorem dX0_costOf_85 : decode cX0_costOf 85 = .ok (.imul, 1) := by decide +kernel
theorem dX0_costOf_86 : decode cX0_costOf 86 = .ok (.ireturn, 1) := by decide +kernel
theorem dX0_costOf_87 : decode cX0_costOf 87 = .ok (.iload_n 3, 1) := by decide +kernel
theorem dX0_costOf_88 : decode cX0_costOf 88 = .ok (.ifCond .eq 10, 3) := by decide +kernel
theorem dX0_costOf_91 : decode cX0_costOf 91 = .ok (.iconst 2, 1) := by decide +kernel
theorem dX0_costOf_92 : decode cX0_costOf 92 = .ok (.iload 5, 2) := by decide +kernel
theorem dX0_costOf_94 : decode cX0_costOf 94 = .ok (.imul, 1) := by decide +kernel
theorem dX0_costOf_95 : decode cX0_costOf 95 = .ok (.goto 5, 3) := by decide +kernel
theorem dX0_costOf_98 : decode cX0_costOf 98 = .ok (.iload 5, 2) := by decide +kernel
theorem dX0_costOf_100 : decode cX0_costOf 100 = .ok (.ireturn, 1) := by decide +kernel
theorem dX0_costOf_101 : decode cX0_costOf 101 = .ok (.iload 4, 2) := by decide +kernel
theorem dX0_costOf_103 : decode cX0_costOf 103 = .ok (.ireturn, 1) := by decide +kernel
theorem dX0_townOf_0 : decode cX0_townOf 0 = .ok (.aload_n 0, 1) := by decide +kernel
theorem dX0_townOf_1 : decode cX0_townOf 1 = .ok (.iload_n 1, 1) := by decide +kernel
theorem dX0_townOf_2 : decode cX0_townOf 2 = .ok (.iload_n 2, 1) := by decide +kernel
theorem dX0_townOf_3 : decode cX0_townOf 3 = .ok (.ifCond .eq 7, 3) := by decide +kernel
theorem dX0_townOf_6 : decode cX0_townOf 6 = .ok (.iconst 1, 1) := by decide +kernel
theorem dX0_townOf_7 : decode cX0_townOf 7 = .ok (.goto 4, 3) := by decide +kernel
theorem dX0_townOf_10 : decode cX0_townOf 10 = .ok (.iconst 2, 1) := by decide +kernel
theorem dX0_townOf_11 : decode cX0_townOf 11 = .ok (.invokevirtual 43, 3) := by decide +kernel
theorem dX0_townOf_14 : decode cX0_townOf 14 = .ok (.ireturn, 1) := by decide +kernel
theorem dX0_bendGuest_0 : decode cX0_bendGuest 0 = .ok (.aload_n 0, 1) := by decide +kernel
theorem dX0_bendGuest_1 : decode cX0_bendGuest 1 = .ok (.iload_n 1, 1) := by decide +kernel
theorem dX0_bendGuest_2 : decode cX0_bendGuest 2 = .ok (.iconst 0, 1) := by decide +kernel
theorem dX0_bendGuest_3 : decode cX0_bendGuest 3 = .ok (.invokevirtual 57, 3) := by decide +kernel
theorem dX0_bendGuest_6 : decode cX0_bendGuest 6 = .ok (.iload_n 2, 1) := by decide +kernel
theorem dX0_bendGuest_7 : decode cX0_bendGuest 7 = .ok (.iadd, 1) := by decide +kernel
theorem dX0_bendGuest_8 : decode cX0_bendGuest 8 = .ok (.istore_n 3, 1) := by decide +kernel
theorem dX0_bendGuest_9 : decode cX0_bendGuest 9 = .ok (.aload_n 0, 1) := by decide +kernel
theorem dX0_bendGuest_10 : decode cX0_bendGuest 10 = .ok (.iload_n 1, 1) := by decide +kernel
theorem dX0_bendGuest_11 : decode cX0_bendGuest 11 = .ok (.iconst 0, 1) := by decide +kernel
theorem dX0_bendGuest_12 : decode cX0_bendGuest 12 = .ok (.iconst 0, 1) := by decide +kernel
theorem dX0_bendGuest_13 : decode cX0_bendGuest 13 = .ok (.bipush 99, 2) := by decide +kernel
theorem dX0_bendGuest_15 : decode cX0_bendGuest 15 = .ok (.iload_n 3, 1) := by decide +kernel
theorem dX0_bendGuest_16 : decode cX0_bendGuest 16 = .ok (.invokestatic 69, 3) := by decide +kernel
theorem dX0_bendGuest_19 : decode cX0_bendGuest 19 = .ok (.invokestatic 64, 3) := by decide +kernel
theorem dX0_bendGuest_22 : decode cX0_bendGuest 22 = .ok (.invokevirtual 51, 3) := by decide +kernel
theorem dX0_bendGuest_25 : decode cX0_bendGuest 25 = .ok (.return_, 1) := by decide +kernel
theorem dX0_serveOnce_0 : decode cX0_serveOnce 0 = .ok (.aload_n 0, 1) := by decide +kernel
theorem dX0_serveOnce_1 : decode cX0_serveOnce 1 = .ok (.iload_n 1, 1) := by decide +kernel
theorem dX0_serveOnce_2 : decode cX0_serveOnce 2 = .ok (.iconst 4, 1) := by decide +kernel
theorem dX0_serveOnce_3 : decode cX0_serveOnce 3 = .ok (.sipush 9999, 3) := by decide +kernel
theorem dX0_serveOnce_6 : decode cX0_serveOnce 6 = .ok (.aload_n 0, 1) := by decide +kernel
theorem dX0_serveOnce_7 : decode cX0_serveOnce 7 = .ok (.iload_n 1, 1) := by decide +kernel
theorem dX0_serveOnce_8 : decode cX0_serveOnce 8 = .ok (.iconst 4, 1) := by decide +kernel
theorem dX0_serveOnce_9 : decode cX0_serveOnce 9 = .ok (.invokevirtual 43, 3) := by decide +kernel
theorem dX0_serveOnce_12 : decode cX0_serveOnce 12 = .ok (.iconst 1, 1) := by decide +kernel
theorem dX0_serveOnce_13 : decode cX0_serveOnce 13 = .ok (.iadd, 1) := by decide +kernel
theorem dX0_serveOnce_14 : decode cX0_serveOnce 14 = .ok (.invokestatic 69, 3) := by decide +kernel
theorem dX0_serveOnce_17 : decode cX0_serveOnce 17 = .ok (.invokevirtual 47, 3) := by decide +kernel
theorem dX0_serveOnce_20 : decode cX0_serveOnce 20 = .ok (.return_, 1) := by decide +kernel
theorem dX0_haveMeal_0 : decode cX0_haveMeal 0 = .ok (.aload_n 0, 1) := by decide +kernel
theorem dX0_haveMeal_1 : decode cX0_haveMeal 1 = .ok (.iload_n 1, 1) := by decide +kernel
theorem dX0_haveMeal_2 : decode cX0_haveMeal 2 = .ok (.iload_n 2, 1) := by decide +kernel
theorem dX0_haveMeal_3 : decode cX0_haveMeal 3 = .ok (.invokevirtual 72, 3) := by decide +kernel
theorem dX0_haveMeal_6 : decode cX0_haveMeal 6 = .ok (.istore_n 3, 1) := by decide +kernel
theorem dX0_haveMeal_7 : decode cX0_haveMeal 7 = .ok (.aload_n 0, 1) := by decide +kernel
theorem dX0_haveMeal_8 : decode cX0_haveMeal 8 = .ok (.iload_n 2, 1) := by decide +kernel
theorem dX0_haveMeal_9 : decode cX0_haveMeal 9 = .ok (.iload_n 3, 1) := by decide +kernel
theorem dX0_haveMeal_10 : decode cX0_haveMeal 10 = .ok (.invokevirtual 75, 3) := by decide +kernel
theorem dX0_haveMeal_13 : decode cX0_haveMeal 13 = .ok (.istore 4, 2) := by decide +kernel
theorem dX0_haveMeal_15 : decode cX0_haveMeal 15 = .ok (.aload_n 0, 1) := by decide +kernel
theorem dX0_haveMeal_16 : decode cX0_haveMeal 16 = .ok (.iload_n 1, 1) := by decide +kernel
theorem dX0_haveMeal_17 : decode cX0_haveMeal 17 = .ok (.iconst 2, 1) := by decide +kernel
theorem dX0_haveMeal_18 : decode cX0_haveMeal 18 = .ok (.invokevirtual 57, 3) := by decide +kernel
theorem dX0_haveMeal_21 : decode cX0_haveMeal 21 = .ok (.aload_n 0, 1) := by decide +kernel
theorem dX0_haveMeal_22 : decode cX0_haveMeal 22 = .ok (.iload_n 1, 1) := by decide +kernel
theorem dX0_haveMeal_23 : decode cX0_haveMeal 23 = .ok (.iload_n 2, 1) := by decide +kernel
theorem dX0_haveMeal_24 : decode cX0_haveMeal 24 = .ok (.iload_n 3, 1) := by decide +kernel
theorem dX0_haveMeal_25 : decode cX0_haveMeal 25 = .ok (.invokevirtual 79, 3) := by decide +kernel
theorem dX0_haveMeal_28 : decode cX0_haveMeal 28 = .ok (.iadd, 1) := by decide +kernel
theorem dX0_haveMeal_29 : decode cX0_haveMeal 29 = .ok (.istore 5, 2) := by decide +kernel
theorem dX0_haveMeal_31 : decode cX0_haveMeal 31 = .ok (.aload_n 0, 1) := by decide +kernel
theorem dX0_haveMeal_32 : decode cX0_haveMeal 32 = .ok (.iload_n 1, 1) := by decide +kernel
theorem dX0_haveMeal_33 : decode cX0_haveMeal 33 = .ok (.iconst 1, 1) := by decide +kernel
theorem dX0_haveMeal_34 : decode cX0_haveMeal 34 = .ok (.iload 4, 2) := by decide +kernel
theorem dX0_haveMeal_36 : decode cX0_haveMeal 36 = .ok (.invokevirtual 51, 3) := by decide +kernel
theorem dX0_haveMeal_39 : decode cX0_haveMeal 39 = .ok (.aload_n 0, 1) := by decide +kernel
theorem dX0_haveMeal_40 : decode cX0_haveMeal 40 = .ok (.iload_n 1, 1) := by decide +kernel
theorem dX0_haveMeal_41 : decode cX0_haveMeal 41 = .ok (.iconst 3, 1) := by decide +kernel
theorem dX0_haveMeal_42 : decode cX0_haveMeal 42 = .ok (.aload_n 0, 1) := by decide +kernel
theorem dX0_haveMeal_43 : decode cX0_haveMeal 43 = .ok (.iload_n 1, 1) := by decide +kernel
theorem dX0_haveMeal_44 : decode cX0_haveMeal 44 = .ok (.iconst 3, 1) := by decide +kernel
theorem dX0_haveMeal_45 : decode cX0_haveMeal 45 = .ok (.invokevirtual 57, 3) := by decide +kernel
theorem dX0_haveMeal_48 : decode cX0_haveMeal 48 = .ok (.iconst 1, 1) := by decide +kernel
theorem dX0_haveMeal_49 : decode cX0_haveMeal 49 = .ok (.iload 4, 2) := by decide +kernel
theorem dX0_haveMeal_51 : decode cX0_haveMeal 51 = .ok (.ishl, 1) := by decide +kernel
theorem dX0_haveMeal_52 : decode cX0_haveMeal 52 = .ok (.ior, 1) := by decide +kernel
theorem dX0_haveMeal_53 : decode cX0_haveMeal 53 = .ok (.invokevirtual 51, 3) := by decide +kernel
theorem dX0_haveMeal_56 : decode cX0_haveMeal 56 = .ok (.aload_n 0, 1) := by decide +kernel
theorem dX0_haveMeal_57 : decode cX0_haveMeal 57 = .ok (.iload_n 1, 1) := by decide +kernel
theorem dX0_haveMeal_58 : decode cX0_haveMeal 58 = .ok (.iconst 2, 1) := by decide +kernel
theorem dX0_haveMeal_59 : decode cX0_haveMeal 59 = .ok (.ldc 83, 2) := by decide +kernel
theorem dX0_haveMeal_61 : decode cX0_haveMeal 61 = .ok (.iload 5, 2) := by decide +kernel
theorem dX0_haveMeal_63 : decode cX0_haveMeal 63 = .ok (.invokestatic 69, 3) := by decide +kernel
theorem dX0_haveMeal_66 : decode cX0_haveMeal 66 = .ok (.invokevirtual 51, 3) := by decide +kernel
theorem dX0_haveMeal_69 : decode cX0_haveMeal 69 = .ok (.aload_n 0, 1) := by decide +kernel
theorem dX0_haveMeal_70 : decode cX0_haveMeal 70 = .ok (.iload_n 1, 1) := by decide +kernel
theorem dX0_haveMeal_71 : decode cX0_haveMeal 71 = .ok (.iconst 4, 1) := by decide +kernel
theorem dX0_haveMeal_72 : decode cX0_haveMeal 72 = .ok (.sipush 9999, 3) := by decide +kernel
theorem dX0_haveMeal_75 : decode cX0_haveMeal 75 = .ok (.aload_n 0, 1) := by decide +kernel
theorem dX0_haveMeal_76 : decode cX0_haveMeal 76 = .ok (.iload_n 1, 1) := by decide +kernel
theorem dX0_haveMeal_77 : decode cX0_haveMeal 77 = .ok (.iconst 4, 1) := by decide +kernel
theorem dX0_haveMeal_78 : decode cX0_haveMeal 78 = .ok (.invokevirtual 57, 3) := by decide +kernel
theorem dX0_haveMeal_81 : decode cX0_haveMeal 81 = .ok (.iconst 1, 1) := by decide +kernel
theorem dX0_haveMeal_82 : decode cX0_haveMeal 82 = .ok (.iadd, 1) := by decide +kernel
theorem dX0_haveMeal_83 : decode cX0_haveMeal 83 = .ok (.invokestatic 69, 3) := by decide +kernel
theorem dX0_haveMeal_86 : decode cX0_haveMeal 86 = .ok (.invokevirtual 51, 3) := by decide +kernel
theorem dX0_haveMeal_89 : decode cX0_haveMeal 89 = .ok (.aload_n 0, 1) := by decide +kernel
theorem dX0_haveMeal_90 : decode cX0_haveMeal 90 = .ok (.iload_n 1, 1) := by decide +kernel
theorem dX0_haveMeal_91 : decode cX0_haveMeal 91 = .ok (.aload_n 0, 1) := by decide +kernel
theorem dX0_haveMeal_92 : decode cX0_haveMeal 92 = .ok (.iload_n 2, 1) := by decide +kernel
theorem dX0_haveMeal_93 : decode cX0_haveMeal 93 = .ok (.iconst 0, 1) := by decide +kernel
theorem dX0_haveMeal_94 : decode cX0_haveMeal 94 = .ok (.invokevirtual 43, 3) := by decide +kernel
theorem dX0_haveMeal_97 : decode cX0_haveMeal 97 = .ok (.iload_n 3, 1) := by decide +kernel
theorem dX0_haveMeal_98 : decode cX0_haveMeal 98 = .ok (.invokestatic 84, 3) := by decide +kernel
theorem dX0_haveMeal_101 : decode cX0_haveMeal 101 = .ok (.invokevirtual 87, 3) := by decide +kernel
theorem dX0_haveMeal_104 : decode cX0_haveMeal 104 = .ok (.aload_n 0, 1) := by decide +kernel
theorem dX0_haveMeal_105 : decode cX0_haveMeal 105 = .ok (.iload_n 2, 1) := by decide +kernel
theorem dX0_haveMeal_106 : decode cX0_haveMeal 106 = .ok (.invokevirtual 91, 3) := by decide +kernel
theorem dX0_haveMeal_109 : decode cX0_haveMeal 109 = .ok (.return_, 1) := by decide +kernel
theorem dX0_passDay_0 : decode cX0_passDay 0 = .ok (.aload_n 0, 1) := by decide +kernel
theorem dX0_passDay_1 : decode cX0_passDay 1 = .ok (.getfield 11, 3) := by decide +kernel
theorem dX0_passDay_4 : decode cX0_passDay 4 = .ok (.aload_n 0, 1) := by decide +kernel
theorem dX0_passDay_5 : decode cX0_passDay 5 = .ok (.getfield 40, 3) := by decide +kernel
theorem dX0_passDay_8 : decode cX0_passDay 8 = .ok (.bipush 6, 2) := by decide +kernel
theorem dX0_passDay_10 : decode cX0_passDay 10 = .ok (.irem, 1) := by decide +kernel
theorem dX0_passDay_11 : decode cX0_passDay 11 = .ok (.iaload, 1) := by decide +kernel
theorem dX0_passDay_12 : decode cX0_passDay 12 = .ok (.istore_n 1, 1) := by decide +kernel
theorem dX0_passDay_13 : decode cX0_passDay 13 = .ok (.iload_n 1, 1) := by decide +kernel
theorem dX0_passDay_14 : decode cX0_passDay 14 = .ok (.invokestatic 95, 3) := by decide +kernel
theorem dX0_passDay_17 : decode cX0_passDay 17 = .ok (.istore_n 2, 1) := by decide +kernel
theorem dX0_passDay_18 : decode cX0_passDay 18 = .ok (.iload_n 1, 1) := by decide +kernel
theorem dX0_passDay_19 : decode cX0_passDay 19 = .ok (.invokestatic 99, 3) := by decide +kernel
theorem dX0_passDay_22 : decode cX0_passDay 22 = .ok (.istore_n 3, 1) := by decide +kernel
theorem dX0_passDay_23 : decode cX0_passDay 23 = .ok (.aload_n 0, 1) := by decide +kernel
theorem dX0_passDay_24 : decode cX0_passDay 24 = .ok (.iload_n 2, 1) := by decide +kernel
theorem dX0_passDay_25 : decode cX0_passDay 25 = .ok (.invokevirtual 102, 3) := by decide +kernel
theorem dX0_passDay_28 : decode cX0_passDay 28 = .ok (.ifCond .eq 25, 3) := by decide +kernel
theorem dX0_passDay_31 : decode cX0_passDay 31 = .ok (.aload_n 0, 1) := by decide +kernel
theorem dX0_passDay_32 : decode cX0_passDay 32 = .ok (.iload_n 3, 1) := by decide +kernel
theorem dX0_passDay_33 : decode cX0_passDay 33 = .ok (.invokevirtual 106, 3) := by decide +kernel
theorem dX0_passDay_36 : decode cX0_passDay 36 = .ok (.ifCond .eq 17, 3) := by decide +kernel
theorem dX0_passDay_39 : decode cX0_passDay 39 = .ok (.aload_n 0, 1) := by decide +kernel
theorem dX0_passDay_40 : decode cX0_passDay 40 = .ok (.iload_n 3, 1) := by decide +kernel
theorem dX0_passDay_41 : decode cX0_passDay 41 = .ok (.invokevirtual 109, 3) := by decide +kernel
theorem dX0_passDay_44 : decode cX0_passDay 44 = .ok (.ifCond .ne 9, 3) := by decide +kernel
theorem dX0_passDay_47 : decode cX0_passDay 47 = .ok (.aload_n 0, 1) := by decide +kernel
theorem dX0_passDay_48 : decode cX0_passDay 48 = .ok (.iload_n 2, 1) := by decide +kernel
theorem dX0_passDay_49 : decode cX0_passDay 49 = .ok (.iload_n 3, 1) := by decide +kernel
theorem dX0_passDay_50 : decode cX0_passDay 50 = .ok (.invokevirtual 112, 3) := by decide +kernel
theorem dX0_passDay_53 : decode cX0_passDay 53 = .ok (.aload_n 0, 1) := by decide +kernel
theorem dX0_passDay_54 : decode cX0_passDay 54 = .ok (.ldc 83, 2) := by decide +kernel
theorem dX0_passDay_56 : decode cX0_passDay 56 = .ok (.aload_n 0, 1) := by decide +kernel
theorem dX0_passDay_57 : decode cX0_passDay 57 = .ok (.getfield 40, 3) := by decide +kernel
theorem dX0_passDay_60 : decode cX0_passDay 60 = .ok (.iconst 1, 1) := by decide +kernel
theorem dX0_passDay_61 : decode cX0_passDay 61 = .ok (.iadd, 1) := by decide +kernel
theorem dX0_passDay_62 : decode cX0_passDay 62 = .ok (.invokestatic 69, 3) := by decide +kernel
theorem dX0_passDay_65 : decode cX0_passDay 65 = .ok (.putfield 40, 3) := by decide +kernel
theorem dX0_passDay_68 : decode cX0_passDay 68 = .ok (.return_, 1) := by decide +kernel
theorem dX0_passDays_0 : decode cX0_passDays 0 = .ok (.iconst 0, 1) := by decide +kernel
theorem dX0_passDays_1 : decode cX0_passDays 1 = .ok (.istore_n 2, 1) := by decide +kernel
theorem dX0_passDays_2 : decode cX0_passDays 2 = .ok (.iload_n 2, 1) := by decide +kernel
theorem dX0_passDays_3 : decode cX0_passDays 3 = .ok (.iload_n 1, 1) := by decide +kernel
theorem dX0_passDays_4 : decode cX0_passDays 4 = .ok (.if_icmp .ge 13, 3) := by decide +kernel
theorem dX0_passDays_7 : decode cX0_passDays 7 = .ok (.aload_n 0, 1) := by decide +kernel
theorem dX0_passDays_8 : decode cX0_passDays 8 = .ok (.invokevirtual 115, 3) := by decide +kernel
theorem dX0_passDays_11 : decode cX0_passDays 11 = .ok (.iinc 2 1, 3) := by decide +kernel
theorem dX0_passDays_14 : decode cX0_passDays 14 = .ok (.goto (-12), 3) := by decide +kernel
theorem dX0_passDays_17 : decode cX0_passDays 17 = .ok (.return_, 1) := by decide +kernel
theorem dX0_drawNumber_0 : decode cX0_drawNumber 0 = .ok (.aload_n 0, 1) := by decide +kernel
theorem dX0_drawNumber_1 : decode cX0_drawNumber 1 = .ok (.aload_n 0, 1) := by decide +kernel
theorem dX0_drawNumber_2 : decode cX0_drawNumber 2 = .ok (.getfield 24, 3) := by decide +kernel
theorem dX0_drawNumber_5 : decode cX0_drawNumber 5 = .ok (.ldc 118, 2) := by decide +kernel
theorem dX0_drawNumber_7 : decode cX0_drawNumber 7 = .ok (.imul, 1) := by decide +kernel
theorem dX0_drawNumber_8 : decode cX0_drawNumber 8 = .ok (.sipush 12345, 3) := by decide +kernel
theorem dX0_drawNumber_11 : decode cX0_drawNumber 11 = .ok (.iadd, 1) := by decide +kernel
theorem dX0_drawNumber_12 : decode cX0_drawNumber 12 = .ok (.putfield 24, 3) := by decide +kernel
theorem dX0_drawNumber_15 : decode cX0_drawNumber 15 = .ok (.aload_n 0, 1) := by decide +kernel
theorem dX0_drawNumber_16 : decode cX0_drawNumber 16 = .ok (.getfield 24, 3) := by decide +kernel
theorem dX0_drawNumber_19 : decode cX0_drawNumber 19 = .ok (.bipush 8, 2) := by decide +kernel
theorem dX0_drawNumber_21 : decode cX0_drawNumber 21 = .ok (.iushr, 1) := by decide +kernel
theorem dX0_drawNumber_22 : decode cX0_drawNumber 22 = .ok (.ireturn, 1) := by decide +kernel
theorem dX0_billSum_0 : decode cX0_billSum 0 = .ok (.iconst 0, 1) := by decide +kernel
theorem dX0_billSum_1 : decode cX0_billSum 1 = .ok (.istore_n 1, 1) := by decide +kernel
theorem dX0_billSum_2 : decode cX0_billSum 2 = .ok (.iconst 0, 1) := by decide +kernel
theorem dX0_billSum_3 : decode cX0_billSum 3 = .ok (.istore_n 2, 1) := by decide +kernel
theorem dX0_billSum_4 : decode cX0_billSum 4 = .ok (.iload_n 2, 1) := by decide +kernel
theorem dX0_billSum_5 : decode cX0_billSum 5 = .ok (.aload_n 0, 1) := by decide +kernel
theorem dX0_billSum_6 : decode cX0_billSum 6 = .ok (.getfield 37, 3) := by decide +kernel
theorem dX0_billSum_9 : decode cX0_billSum 9 = .ok (.if_icmp .ge 18, 3) := by decide +kernel
theorem dX0_billSum_12 : decode cX0_billSum 12 = .ok (.iload_n 1, 1) := by decide +kernel
theorem dX0_billSum_13 : decode cX0_billSum 13 = .ok (.aload_n 0, 1) := by decide +kernel
theorem dX0_billSum_14 : decode cX0_billSum 14 = .ok (.iload_n 2, 1) := by decide +kernel
theorem dX0_billSum_15 : decode cX0_billSum 15 = .ok (.iconst 2, 1) := by decide +kernel
theorem dX0_billSum_16 : decode cX0_billSum 16 = .ok (.invokevirtual 57, 3) := by decide +kernel
theorem dX0_billSum_19 : decode cX0_billSum 19 = .ok (.iadd, 1) := by decide +kernel
theorem dX0_billSum_20 : decode cX0_billSum 20 = .ok (.istore_n 1, 1) := by decide +kernel
theorem dX0_billSum_21 : decode cX0_billSum 21 = .ok (.iinc 2 1, 3) := by decide +kernel
theorem dX0_billSum_24 : decode cX0_billSum 24 = .ok (.goto (-20), 3) := by decide +kernel
theorem dX0_billSum_27 : decode cX0_billSum 27 = .ok (.iload_n 1, 1) := by decide +kernel
theorem dX0_billSum_28 : decode cX0_billSum 28 = .ok (.ireturn, 1) := by decide +kernel
theorem dX0_servedSum_0 : decode cX0_servedSum 0 = .ok (.iconst 0, 1) := by decide +kernel
theorem dX0_servedSum_1 : decode cX0_servedSum 1 = .ok (.istore_n 1, 1) := by decide +kernel
theorem dX0_servedSum_2 : decode cX0_servedSum 2 = .ok (.iconst 0, 1) := by decide +kernel
theorem dX0_servedSum_3 : decode cX0_servedSum 3 = .ok (.istore_n 2, 1) := by decide +kernel
theorem dX0_servedSum_4 : decode cX0_servedSum 4 = .ok (.iload_n 2, 1) := by decide +kernel
theorem dX0_servedSum_5 : decode cX0_servedSum 5 = .ok (.aload_n 0, 1) := by decide +kernel
theorem dX0_servedSum_6 : decode cX0_servedSum 6 = .ok (.getfield 34, 3) := by decide +kernel
theorem dX0_servedSum_9 : decode cX0_servedSum 9 = .ok (.if_icmp .ge 18, 3) := by decide +kernel
theorem dX0_servedSum_12 : decode cX0_servedSum 12 = .ok (.iload_n 1, 1) := by decide +kernel
theorem dX0_servedSum_13 : decode cX0_servedSum 13 = .ok (.aload_n 0, 1) := by decide +kernel
theorem dX0_servedSum_14 : decode cX0_servedSum 14 = .ok (.iload_n 2, 1) := by decide +kernel
theorem dX0_servedSum_15 : decode cX0_servedSum 15 = .ok (.iconst 4, 1) := by decide +kernel
theorem dX0_servedSum_16 : decode cX0_servedSum 16 = .ok (.invokevirtual 43, 3) := by decide +kernel
theorem dX0_servedSum_19 : decode cX0_servedSum 19 = .ok (.iadd, 1) := by decide +kernel
theorem dX0_servedSum_20 : decode cX0_servedSum 20 = .ok (.istore_n 1, 1) := by decide +kernel
theorem dX0_servedSum_21 : decode cX0_servedSum 21 = .ok (.iinc 2 1, 3) := by decide +kernel
theorem dX0_servedSum_24 : decode cX0_servedSum 24 = .ok (.goto (-20), 3) := by decide +kernel
theorem dX0_servedSum_27 : decode cX0_servedSum 27 = .ok (.iload_n 1, 1) := by decide +kernel
theorem dX0_servedSum_28 : decode cX0_servedSum 28 = .ok (.ireturn, 1) := by decide +kernel
theorem dX0_townsAimedAt_0 : decode cX0_townsAimedAt 0 = .ok (.iconst 0, 1) := by decide +kernel
theorem dX0_townsAimedAt_1 : decode cX0_townsAimedAt 1 = .ok (.istore_n 1, 1) := by decide +kernel
theorem dX0_townsAimedAt_2 : decode cX0_townsAimedAt 2 = .ok (.iconst 0, 1) := by decide +kernel
theorem dX0_townsAimedAt_3 : decode cX0_townsAimedAt 3 = .ok (.istore_n 2, 1) := by decide +kernel
theorem dX0_townsAimedAt_4 : decode cX0_townsAimedAt 4 = .ok (.iload_n 2, 1) := by decide +kernel
theorem dX0_townsAimedAt_5 : decode cX0_townsAimedAt 5 = .ok (.aload_n 0, 1) := by decide +kernel
theorem dX0_townsAimedAt_6 : decode cX0_townsAimedAt 6 = .ok (.getfield 37, 3) := by decide +kernel
theorem dX0_townsAimedAt_9 : decode cX0_townsAimedAt 9 = .ok (.if_icmp .ge 20, 3) := by decide +kernel
theorem dX0_townsAimedAt_12 : decode cX0_townsAimedAt 12 = .ok (.iload_n 1, 1) := by decide +kernel
theorem dX0_townsAimedAt_13 : decode cX0_townsAimedAt 13 = .ok (.iconst 1, 1) := by decide +kernel
theorem dX0_townsAimedAt_14 : decode cX0_townsAimedAt 14 = .ok (.aload_n 0, 1) := by decide +kernel
theorem dX0_townsAimedAt_15 : decode cX0_townsAimedAt 15 = .ok (.iload_n 2, 1) := by decide +kernel
theorem dX0_townsAimedAt_16 : decode cX0_townsAimedAt 16 = .ok (.iconst 1, 1) := by decide +kernel
theorem dX0_townsAimedAt_17 : decode cX0_townsAimedAt 17 = .ok (.invokevirtual 57, 3) := by decide +kernel
theorem dX0_townsAimedAt_20 : decode cX0_townsAimedAt 20 = .ok (.ishl, 1) := by decide +kernel
theorem dX0_townsAimedAt_21 : decode cX0_townsAimedAt 21 = .ok (.ior, 1) := by decide +kernel
theorem dX0_townsAimedAt_22 : decode cX0_townsAimedAt 22 = .ok (.istore_n 1, 1) := by decide +kernel
theorem dX0_townsAimedAt_23 : decode cX0_townsAimedAt 23 = .ok (.iinc 2 1, 3) := by decide +kernel
theorem dX0_townsAimedAt_26 : decode cX0_townsAimedAt 26 = .ok (.goto (-22), 3) := by decide +kernel
theorem dX0_townsAimedAt_29 : decode cX0_townsAimedAt 29 = .ok (.iload_n 1, 1) := by decide +kernel
theorem dX0_townsAimedAt_30 : decode cX0_townsAimedAt 30 = .ok (.ireturn, 1) := by decide +kernel
theorem dX0_townsBeenIn_0 : decode cX0_townsBeenIn 0 = .ok (.iconst 0, 1) := by decide +kernel
theorem dX0_townsBeenIn_1 : decode cX0_townsBeenIn 1 = .ok (.istore_n 1, 1) := by decide +kernel
theorem dX0_townsBeenIn_2 : decode cX0_townsBeenIn 2 = .ok (.iconst 0, 1) := by decide +kernel
theorem dX0_townsBeenIn_3 : decode cX0_townsBeenIn 3 = .ok (.istore_n 2, 1) := by decide +kernel
theorem dX0_townsBeenIn_4 : decode cX0_townsBeenIn 4 = .ok (.iload_n 2, 1) := by decide +kernel
theorem dX0_townsBeenIn_5 : decode cX0_townsBeenIn 5 = .ok (.aload_n 0, 1) := by decide +kernel
theorem dX0_townsBeenIn_6 : decode cX0_townsBeenIn 6 = .ok (.getfield 37, 3) := by decide +kernel
theorem dX0_townsBeenIn_9 : decode cX0_townsBeenIn 9 = .ok (.if_icmp .ge 18, 3) := by decide +kernel
theorem dX0_townsBeenIn_12 : decode cX0_townsBeenIn 12 = .ok (.iload_n 1, 1) := by decide +kernel
theorem dX0_townsBeenIn_13 : decode cX0_townsBeenIn 13 = .ok (.aload_n 0, 1) := by decide +kernel
theorem dX0_townsBeenIn_14 : decode cX0_townsBeenIn 14 = .ok (.iload_n 2, 1) := by decide +kernel
theorem dX0_townsBeenIn_15 : decode cX0_townsBeenIn 15 = .ok (.iconst 3, 1) := by decide +kernel
theorem dX0_townsBeenIn_16 : decode cX0_townsBeenIn 16 = .ok (.invokevirtual 57, 3) := by decide +kernel
theorem dX0_townsBeenIn_19 : decode cX0_townsBeenIn 19 = .ok (.ior, 1) := by decide +kernel
theorem dX0_townsBeenIn_20 : decode cX0_townsBeenIn 20 = .ok (.istore_n 1, 1) := by decide +kernel
theorem dX0_townsBeenIn_21 : decode cX0_townsBeenIn 21 = .ok (.iinc 2 1, 3) := by decide +kernel
theorem dX0_townsBeenIn_24 : decode cX0_townsBeenIn 24 = .ok (.goto (-20), 3) := by decide +kernel
theorem dX0_townsBeenIn_27 : decode cX0_townsBeenIn 27 = .ok (.iload_n 1, 1) := by decide +kernel
theorem dX0_townsBeenIn_28 : decode cX0_townsBeenIn 28 = .ok (.ireturn, 1) := by decide +kernel
theorem dX0_partedPairs_0 : decode cX0_partedPairs 0 = .ok (.iconst 0, 1) := by decide +kernel
theorem dX0_partedPairs_1 : decode cX0_partedPairs 1 = .ok (.istore_n 1, 1) := by decide +kernel
theorem dX0_partedPairs_2 : decode cX0_partedPairs 2 = .ok (.iconst 0, 1) := by decide +kernel
theorem dX0_partedPairs_3 : decode cX0_partedPairs 3 = .ok (.istore_n 2, 1) := by decide +kernel
theorem dX0_partedPairs_4 : decode cX0_partedPairs 4 = .ok (.iload_n 2, 1) := by decide +kernel
theorem dX0_partedPairs_5 : decode cX0_partedPairs 5 = .ok (.aload_n 0, 1) := by decide +kernel
theorem dX0_partedPairs_6 : decode cX0_partedPairs 6 = .ok (.getfield 37, 3) := by decide +kernel
theorem dX0_partedPairs_9 : decode cX0_partedPairs 9 = .ok (.if_icmp .ge 45, 3) := by decide +kernel
theorem dX0_partedPairs_12 : decode cX0_partedPairs 12 = .ok (.iload_n 2, 1) := by decide +kernel
theorem dX0_partedPairs_13 : decode cX0_partedPairs 13 = .ok (.iconst 1, 1) := by decide +kernel
theorem dX0_partedPairs_14 : decode cX0_partedPairs 14 = .ok (.iadd, 1) := by decide +kernel
theorem dX0_partedPairs_15 : decode cX0_partedPairs 15 = .ok (.istore_n 3, 1) := by decide +kernel
theorem dX0_partedPairs_16 : decode cX0_partedPairs 16 = .ok (.iload_n 3, 1) := by decide +kernel
theorem dX0_partedPairs_17 : decode cX0_partedPairs 17 = .ok (.aload_n 0, 1) := by decide +kernel
theorem dX0_partedPairs_18 : decode cX0_partedPairs 18 = .ok (.getfield 37, 3) := by decide +kernel
theorem dX0_partedPairs_21 : decode cX0_partedPairs 21 = .ok (.if_icmp .ge 27, 3) := by decide +kernel
theorem dX0_partedPairs_24 : decode cX0_partedPairs 24 = .ok (.aload_n 0, 1) := by decide +kernel
theorem dX0_partedPairs_25 : decode cX0_partedPairs 25 = .ok (.iload_n 2, 1) := by decide +kernel
theorem dX0_partedPairs_26 : decode cX0_partedPairs 26 = .ok (.iconst 1, 1) := by decide +kernel
theorem dX0_partedPairs_27 : decode cX0_partedPairs 27 = .ok (.invokevirtual 57, 3) := by decide +kernel
theorem dX0_partedPairs_30 : decode cX0_partedPairs 30 = .ok (.aload_n 0, 1) := by decide +kernel
theorem dX0_partedPairs_31 : decode cX0_partedPairs 31 = .ok (.iload_n 3, 1) := by decide +kernel
theorem dX0_partedPairs_32 : decode cX0_partedPairs 32 = .ok (.iconst 1, 1) := by decide +kernel
theorem dX0_partedPairs_33 : decode cX0_partedPairs 33 = .ok (.invokevirtual 57, 3) := by decide +kernel
theorem dX0_partedPairs_36 : decode cX0_partedPairs 36 = .ok (.if_icmp .eq 6, 3) := by decide +kernel
theorem dX0_partedPairs_39 : decode cX0_partedPairs 39 = .ok (.iinc 1 1, 3) := by decide +kernel
theorem dX0_partedPairs_42 : decode cX0_partedPairs 42 = .ok (.iinc 3 1, 3) := by decide +kernel
theorem dX0_partedPairs_45 : decode cX0_partedPairs 45 = .ok (.goto (-29), 3) := by decide +kernel
theorem dX0_partedPairs_48 : decode cX0_partedPairs 48 = .ok (.iinc 2 1, 3) := by decide +kernel
theorem dX0_partedPairs_51 : decode cX0_partedPairs 51 = .ok (.goto (-47), 3) := by decide +kernel
theorem dX0_partedPairs_54 : decode cX0_partedPairs 54 = .ok (.iload_n 1, 1) := by decide +kernel
theorem dX0_partedPairs_55 : decode cX0_partedPairs 55 = .ok (.ireturn, 1) := by decide +kernel
theorem dX0_dishesOnCard_0 : decode cX0_dishesOnCard 0 = .ok (.iconst 0, 1) := by decide +kernel
theorem dX0_dishesOnCard_1 : decode cX0_dishesOnCard 1 = .ok (.istore_n 1, 1) := by decide +kernel
theorem dX0_dishesOnCard_2 : decode cX0_dishesOnCard 2 = .ok (.iconst 0, 1) := by decide +kernel
theorem dX0_dishesOnCard_3 : decode cX0_dishesOnCard 3 = .ok (.istore_n 2, 1) := by decide +kernel
theorem dX0_dishesOnCard_4 : decode cX0_dishesOnCard 4 = .ok (.iload_n 2, 1) := by decide +kernel
theorem dX0_dishesOnCard_5 : decode cX0_dishesOnCard 5 = .ok (.aload_n 0, 1) := by decide +kernel
theorem dX0_dishesOnCard_6 : decode cX0_dishesOnCard 6 = .ok (.getfield 34, 3) := by decide +kernel
theorem dX0_dishesOnCard_9 : decode cX0_dishesOnCard 9 = .ok (.if_icmp .ge 23, 3) := by decide +kernel
theorem dX0_dishesOnCard_12 : decode cX0_dishesOnCard 12 = .ok (.aload_n 0, 1) := by decide +kernel
theorem dX0_dishesOnCard_13 : decode cX0_dishesOnCard 13 = .ok (.iload_n 2, 1) := by decide +kernel
theorem dX0_dishesOnCard_14 : decode cX0_dishesOnCard 14 = .ok (.invokevirtual 109, 3) := by decide +kernel
theorem dX0_dishesOnCard_17 : decode cX0_dishesOnCard 17 = .ok (.ifCond .ne 9, 3) := by decide +kernel
theorem dX0_dishesOnCard_20 : decode cX0_dishesOnCard 20 = .ok (.iload_n 1, 1) := by decide +kernel
theorem dX0_dishesOnCard_21 : decode cX0_dishesOnCard 21 = .ok (.iconst 1, 1) := by decide +kernel
theorem dX0_dishesOnCard_22 : decode cX0_dishesOnCard 22 = .ok (.iload_n 2, 1) := by decide +kernel
theorem dX0_dishesOnCard_23 : decode cX0_dishesOnCard 23 = .ok (.ishl, 1) := by decide +kernel
theorem dX0_dishesOnCard_24 : decode cX0_dishesOnCard 24 = .ok (.ior, 1) := by decide +kernel
theorem dX0_dishesOnCard_25 : decode cX0_dishesOnCard 25 = .ok (.istore_n 1, 1) := by decide +kernel
theorem dX0_dishesOnCard_26 : decode cX0_dishesOnCard 26 = .ok (.iinc 2 1, 3) := by decide +kernel
theorem dX0_dishesOnCard_29 : decode cX0_dishesOnCard 29 = .ok (.goto (-25), 3) := by decide +kernel
theorem dX0_dishesOnCard_32 : decode cX0_dishesOnCard 32 = .ok (.iload_n 1, 1) := by decide +kernel
theorem dX0_dishesOnCard_33 : decode cX0_dishesOnCard 33 = .ok (.ireturn, 1) := by decide +kernel
theorem dX0_deepestInDebt_0 : decode cX0_deepestInDebt 0 = .ok (.iconst (-1), 1) := by decide +kernel
theorem dX0_deepestInDebt_1 : decode cX0_deepestInDebt 1 = .ok (.istore_n 1, 1) := by decide +kernel
theorem dX0_deepestInDebt_2 : decode cX0_deepestInDebt 2 = .ok (.iconst (-1), 1) := by decide +kernel
theorem dX0_deepestInDebt_3 : decode cX0_deepestInDebt 3 = .ok (.istore_n 2, 1) := by decide +kernel
theorem dX0_deepestInDebt_4 : decode cX0_deepestInDebt 4 = .ok (.iconst 0, 1) := by decide +kernel
theorem dX0_deepestInDebt_5 : decode cX0_deepestInDebt 5 = .ok (.istore_n 3, 1) := by decide +kernel
theorem dX0_deepestInDebt_6 : decode cX0_deepestInDebt 6 = .ok (.iload_n 3, 1) := by decide +kernel
theorem dX0_deepestInDebt_7 : decode cX0_deepestInDebt 7 = .ok (.aload_n 0, 1) := by decide +kernel
theorem dX0_deepestInDebt_8 : decode cX0_deepestInDebt 8 = .ok (.getfield 37, 3) := by decide +kernel
theorem dX0_deepestInDebt_11 : decode cX0_deepestInDebt 11 = .ok (.if_icmp .ge 28, 3) := by decide +kernel
theorem dX0_deepestInDebt_14 : decode cX0_deepestInDebt 14 = .ok (.aload_n 0, 1) := by decide +kernel
theorem dX0_deepestInDebt_15 : decode cX0_deepestInDebt 15 = .ok (.iload_n 3, 1) := by decide +kernel
theorem dX0_deepestInDebt_16 : decode cX0_deepestInDebt 16 = .ok (.iconst 2, 1) := by decide +kernel
theorem dX0_deepestInDebt_17 : decode cX0_deepestInDebt 17 = .ok (.invokevirtual 57, 3) := by decide +kernel
theorem dX0_deepestInDebt_20 : decode cX0_deepestInDebt 20 = .ok (.iload_n 2, 1) := by decide +kernel
theorem dX0_deepestInDebt_21 : decode cX0_deepestInDebt 21 = .ok (.if_icmp .le 12, 3) := by decide +kernel
theorem dX0_deepestInDebt_24 : decode cX0_deepestInDebt 24 = .ok (.aload_n 0, 1) := by decide +kernel
theorem dX0_deepestInDebt_25 : decode cX0_deepestInDebt 25 = .ok (.iload_n 3, 1) := by decide +kernel
theorem dX0_deepestInDebt_26 : decode cX0_deepestInDebt 26 = .ok (.iconst 2, 1) := by decide +kernel
theorem dX0_deepestInDebt_27 : decode cX0_deepestInDebt 27 = .ok (.invokevirtual 57, 3) := by decide +kernel
theorem dX0_deepestInDebt_30 : decode cX0_deepestInDebt 30 = .ok (.istore_n 2, 1) := by decide +kernel
theorem dX0_deepestInDebt_31 : decode cX0_deepestInDebt 31 = .ok (.iload_n 3, 1) := by decide +kernel
theorem dX0_deepestInDebt_32 : decode cX0_deepestInDebt 32 = .ok (.istore_n 1, 1) := by decide +kernel
theorem dX0_deepestInDebt_33 : decode cX0_deepestInDebt 33 = .ok (.iinc 3 1, 3) := by decide +kernel
theorem dX0_deepestInDebt_36 : decode cX0_deepestInDebt 36 = .ok (.goto (-30), 3) := by decide +kernel
theorem dX0_deepestInDebt_39 : decode cX0_deepestInDebt 39 = .ok (.iload_n 1, 1) := by decide +kernel
theorem dX0_deepestInDebt_40 : decode cX0_deepestInDebt 40 = .ok (.ireturn, 1) := by decide +kernel
theorem dX0_spotsInUse_0 : decode cX0_spotsInUse 0 = .ok (.iconst 0, 1) := by decide +kernel
theorem dX0_spotsInUse_1 : decode cX0_spotsInUse 1 = .ok (.istore_n 1, 1) := by decide +kernel
theorem dX0_spotsInUse_2 : decode cX0_spotsInUse 2 = .ok (.iconst 0, 1) := by decide +kernel
theorem dX0_spotsInUse_3 : decode cX0_spotsInUse 3 = .ok (.istore_n 2, 1) := by decide +kernel
theorem dX0_spotsInUse_4 : decode cX0_spotsInUse 4 = .ok (.iload_n 2, 1) := by decide +kernel
theorem dX0_spotsInUse_5 : decode cX0_spotsInUse 5 = .ok (.bipush 10, 2) := by decide +kernel
theorem dX0_spotsInUse_7 : decode cX0_spotsInUse 7 = .ok (.if_icmp .ge 22, 3) := by decide +kernel
theorem dX0_spotsInUse_10 : decode cX0_spotsInUse 10 = .ok (.aload_n 0, 1) := by decide +kernel
theorem dX0_spotsInUse_11 : decode cX0_spotsInUse 11 = .ok (.getfield 21, 3) := by decide +kernel
theorem dX0_spotsInUse_14 : decode cX0_spotsInUse 14 = .ok (.iload_n 2, 1) := by decide +kernel
theorem dX0_spotsInUse_15 : decode cX0_spotsInUse 15 = .ok (.iaload, 1) := by decide +kernel
theorem dX0_spotsInUse_16 : decode cX0_spotsInUse 16 = .ok (.iconst (-1), 1) := by decide +kernel
theorem dX0_spotsInUse_17 : decode cX0_spotsInUse 17 = .ok (.if_icmp .eq 6, 3) := by decide +kernel
theorem dX0_spotsInUse_20 : decode cX0_spotsInUse 20 = .ok (.iinc 1 1, 3) := by decide +kernel
theorem dX0_spotsInUse_23 : decode cX0_spotsInUse 23 = .ok (.iinc 2 1, 3) := by decide +kernel
theorem dX0_spotsInUse_26 : decode cX0_spotsInUse 26 = .ok (.goto (-22), 3) := by decide +kernel
theorem dX0_spotsInUse_29 : decode cX0_spotsInUse 29 = .ok (.iload_n 1, 1) := by decide +kernel
theorem dX0_spotsInUse_30 : decode cX0_spotsInUse 30 = .ok (.ireturn, 1) := by decide +kernel
theorem dX1_init_0 : decode cX1_init 0 = .ok (.aload_n 0, 1) := by decide +kernel
theorem dX1_init_1 : decode cX1_init 1 = .ok (.invokespecial 1, 3) := by decide +kernel
theorem dX1_init_4 : decode cX1_init 4 = .ok (.aload_n 0, 1) := by decide +kernel
theorem dX1_init_5 : decode cX1_init 5 = .ok (.bipush 40, 2) := by decide +kernel
theorem dX1_init_7 : decode cX1_init 7 = .ok (.newarray .int, 2) := by decide +kernel
theorem dX1_init_9 : decode cX1_init 9 = .ok (.putfield 9, 3) := by decide +kernel
theorem dX1_init_12 : decode cX1_init 12 = .ok (.return_, 1) := by decide +kernel
theorem dX1_isMissing_0 : decode cX1_isMissing 0 = .ok (.aload_n 0, 1) := by decide +kernel
theorem dX1_isMissing_1 : decode cX1_isMissing 1 = .ok (.getfield 13, 3) := by decide +kernel
theorem dX1_isMissing_4 : decode cX1_isMissing 4 = .ok (.ifCond .ne 7, 3) := by decide +kernel
theorem dX1_isMissing_7 : decode cX1_isMissing 7 = .ok (.iconst 1, 1) := by decide +kernel
theorem dX1_isMissing_8 : decode cX1_isMissing 8 = .ok (.goto 4, 3) := by decide +kernel
theorem dX1_isMissing_11 : decode cX1_isMissing 11 = .ok (.iconst 0, 1) := by decide +kernel
theorem dX1_isMissing_12 : decode cX1_isMissing 12 = .ok (.ireturn, 1) := by decide +kernel
theorem dX1_start_0 : decode cX1_start 0 = .ok (.aload_n 0, 1) := by decide +kernel
theorem dX1_start_1 : decode cX1_start 1 = .ok (.iload_n 1, 1) := by decide +kernel
theorem dX1_start_2 : decode cX1_start 2 = .ok (.putfield 13, 3) := by decide +kernel
theorem dX1_start_5 : decode cX1_start 5 = .ok (.aload_n 0, 1) := by decide +kernel
theorem dX1_start_6 : decode cX1_start 6 = .ok (.iload_n 2, 1) := by decide +kernel
theorem dX1_start_7 : decode cX1_start 7 = .ok (.putfield 17, 3) := by decide +kernel
theorem dX1_start_10 : decode cX1_start 10 = .ok (.iconst 0, 1) := by decide +kernel
theorem dX1_start_11 : decode cX1_start 11 = .ok (.istore_n 3, 1) := by decide +kernel
theorem dX1_start_12 : decode cX1_start 12 = .ok (.iload_n 3, 1) := by decide +kernel
theorem dX1_start_13 : decode cX1_start 13 = .ok (.bipush 40, 2) := by decide +kernel
theorem dX1_start_15 : decode cX1_start 15 = .ok (.if_icmp .ge 16, 3) := by decide +kernel
theorem dX1_start_18 : decode cX1_start 18 = .ok (.aload_n 0, 1) := by decide +kernel
theorem dX1_start_19 : decode cX1_start 19 = .ok (.getfield 9, 3) := by decide +kernel
theorem dX1_start_22 : decode cX1_start 22 = .ok (.iload_n 3, 1) := by decide +kernel
theorem dX1_start_23 : decode cX1_start 23 = .ok (.iconst 0, 1) := by decide +kernel
theorem dX1_start_24 : decode cX1_start 24 = .ok (.iastore, 1) := by decide +kernel
theorem dX1_start_25 : decode cX1_start 25 = .ok (.iinc 3 1, 3) := by decide +kernel
theorem dX1_start_28 : decode cX1_start 28 = .ok (.goto (-16), 3) := by decide +kernel
theorem dX1_start_31 : decode cX1_start 31 = .ok (.return_, 1) := by decide +kernel
theorem dX1_put_0 : decode cX1_put 0 = .ok (.aload_n 0, 1) := by decide +kernel
theorem dX1_put_1 : decode cX1_put 1 = .ok (.getfield 13, 3) := by decide +kernel
theorem dX1_put_4 : decode cX1_put 4 = .ok (.bipush 8, 2) := by decide +kernel
theorem dX1_put_6 : decode cX1_put 6 = .ok (.if_icmp .ne 14, 3) := by decide +kernel
theorem dX1_put_9 : decode cX1_put 9 = .ok (.aload_n 0, 1) := by decide +kernel
theorem dX1_put_10 : decode cX1_put 10 = .ok (.getfield 9, 3) := by decide +kernel
theorem dX1_put_13 : decode cX1_put 13 = .ok (.iload_n 1, 1) := by decide +kernel
theorem dX1_put_14 : decode cX1_put 14 = .ok (.iload_n 2, 1) := by decide +kernel
theorem dX1_put_15 : decode cX1_put 15 = .ok (.i2b, 1) := by decide +kernel
theorem dX1_put_16 : decode cX1_put 16 = .ok (.iastore, 1) := by decide +kernel
theorem dX1_put_17 : decode cX1_put 17 = .ok (.goto 30, 3) := by decide +kernel
theorem dX1_put_20 : decode cX1_put 20 = .ok (.aload_n 0, 1) := by decide +kernel
theorem dX1_put_21 : decode cX1_put 21 = .ok (.getfield 13, 3) := by decide +kernel
theorem dX1_put_24 : decode cX1_put 24 = .ok (.bipush 16, 2) := by decide +kernel
theorem dX1_put_26 : decode cX1_put 26 = .ok (.if_icmp .ne 14, 3) := by decide +kernel
theorem dX1_put_29 : decode cX1_put 29 = .ok (.aload_n 0, 1) := by decide +kernel
theorem dX1_put_30 : decode cX1_put 30 = .ok (.getfield 9, 3) := by decide +kernel
theorem dX1_put_33 : decode cX1_put 33 = .ok (.iload_n 1, 1) := by decide +kernel
theorem dX1_put_34 : decode cX1_put 34 = .ok (.iload_n 2, 1) := by decide +kernel
theorem dX1_put_35 : decode cX1_put 35 = .ok (.i2s, 1) := by decide +kernel
theorem dX1_put_36 : decode cX1_put 36 = .ok (.iastore, 1) := by decide +kernel
theorem dX1_put_37 : decode cX1_put 37 = .ok (.goto 10, 3) := by decide +kernel
theorem dX1_put_40 : decode cX1_put 40 = .ok (.aload_n 0, 1) := by decide +kernel
theorem dX1_put_41 : decode cX1_put 41 = .ok (.getfield 9, 3) := by decide +kernel
theorem dX1_put_44 : decode cX1_put 44 = .ok (.iload_n 1, 1) := by decide +kernel
theorem dX1_put_45 : decode cX1_put 45 = .ok (.iload_n 2, 1) := by decide +kernel
theorem dX1_put_46 : decode cX1_put 46 = .ok (.iastore, 1) := by decide +kernel
theorem dX1_put_47 : decode cX1_put 47 = .ok (.return_, 1) := by decide +kernel
theorem dX1_hasRange_0 : decode cX1_hasRange 0 = .ok (.iload_n 2, 1) := by decide +kernel
theorem dX1_hasRange_1 : decode cX1_hasRange 1 = .ok (.ifCond .lt 29, 3) := by decide +kernel
theorem dX1_hasRange_4 : decode cX1_hasRange 4 = .ok (.iload_n 2, 1) := by decide +kernel
theorem dX1_hasRange_5 : decode cX1_hasRange 5 = .ok (.aload_n 0, 1) := by decide +kernel
theorem dX1_hasRange_6 : decode cX1_hasRange 6 = .ok (.getfield 17, 3) := by decide +kernel
theorem dX1_hasRange_9 : decode cX1_hasRange 9 = .ok (.if_icmp .gt 21, 3) := by decide +kernel
theorem dX1_hasRange_12 : decode cX1_hasRange 12 = .ok (.iload_n 1, 1) := by decide +kernel
theorem dX1_hasRange_13 : decode cX1_hasRange 13 = .ok (.ifCond .lt 17, 3) := by decide +kernel
theorem dX1_hasRange_16 : decode cX1_hasRange 16 = .ok (.iload_n 1, 1) := by decide +kernel
theorem dX1_hasRange_17 : decode cX1_hasRange 17 = .ok (.aload_n 0, 1) := by decide +kernel
theorem dX1_hasRange_18 : decode cX1_hasRange 18 = .ok (.getfield 17, 3) := by decide +kernel
theorem dX1_hasRange_21 : decode cX1_hasRange 21 = .ok (.iload_n 2, 1) := by decide +kernel
theorem dX1_hasRange_22 : decode cX1_hasRange 22 = .ok (.isub, 1) := by decide +kernel
theorem dX1_hasRange_23 : decode cX1_hasRange 23 = .ok (.if_icmp .gt 7, 3) := by decide +kernel
theorem dX1_hasRange_26 : decode cX1_hasRange 26 = .ok (.iconst 1, 1) := by decide +kernel
theorem dX1_hasRange_27 : decode cX1_hasRange 27 = .ok (.goto 4, 3) := by decide +kernel
theorem dX1_hasRange_30 : decode cX1_hasRange 30 = .ok (.iconst 0, 1) := by decide +kernel
theorem dX1_hasRange_31 : decode cX1_hasRange 31 = .ok (.ireturn, 1) := by decide +kernel
theorem dX2_init_0 : decode cX2_init 0 = .ok (.aload_n 0, 1) := by decide +kernel
theorem dX2_init_1 : decode cX2_init 1 = .ok (.invokespecial 1, 3) := by decide +kernel
theorem dX2_init_4 : decode cX2_init 4 = .ok (.aload_n 0, 1) := by decide +kernel
theorem dX2_init_5 : decode cX2_init 5 = .ok (.bipush 120, 2) := by decide +kernel
theorem dX2_init_7 : decode cX2_init 7 = .ok (.newarray .byte, 2) := by decide +kernel
theorem dX2_init_9 : decode cX2_init 9 = .ok (.putfield 9, 3) := by decide +kernel
theorem dX2_init_12 : decode cX2_init 12 = .ok (.return_, 1) := by decide +kernel
theorem dX2_addByte_0 : decode cX2_addByte 0 = .ok (.aload_n 0, 1) := by decide +kernel
theorem dX2_addByte_1 : decode cX2_addByte 1 = .ok (.getfield 13, 3) := by decide +kernel
theorem dX2_addByte_4 : decode cX2_addByte 4 = .ok (.bipush 120, 2) := by decide +kernel
theorem dX2_addByte_6 : decode cX2_addByte 6 = .ok (.if_icmp .ge 23, 3) := by decide +kernel
theorem dX2_addByte_9 : decode cX2_addByte 9 = .ok (.aload_n 0, 1) := by decide +kernel
theorem dX2_addByte_10 : decode cX2_addByte 10 = .ok (.getfield 9, 3) := by decide +kernel
theorem dX2_addByte_13 : decode cX2_addByte 13 = .ok (.aload_n 0, 1) := by decide +kernel
theorem dX2_addByte_14 : decode cX2_addByte 14 = .ok (.getfield 13, 3) := by decide +kernel
theorem dX2_addByte_17 : decode cX2_addByte 17 = .ok (.iload_n 1, 1) := by decide +kernel
theorem dX2_addByte_18 : decode cX2_addByte 18 = .ok (.bastore, 1) := by decide +kernel
theorem dX2_addByte_19 : decode cX2_addByte 19 = .ok (.aload_n 0, 1) := by decide +kernel
theorem dX2_addByte_20 : decode cX2_addByte 20 = .ok (.dup, 1) := by decide +kernel
theorem dX2_addByte_21 : decode cX2_addByte 21 = .ok (.getfield 13, 3) := by decide +kernel
theorem dX2_addByte_24 : decode cX2_addByte 24 = .ok (.iconst 1, 1) := by decide +kernel
theorem dX2_addByte_25 : decode cX2_addByte 25 = .ok (.iadd, 1) := by decide +kernel
theorem dX2_addByte_26 : decode cX2_addByte 26 = .ok (.putfield 13, 3) := by decide +kernel
theorem dX2_addByte_29 : decode cX2_addByte 29 = .ok (.return_, 1) := by decide +kernel
theorem dX2_readText_0 : decode cX2_readText 0 = .ok (.aload_n 0, 1) := by decide +kernel
theorem dX2_readText_1 : decode cX2_readText 1 = .ok (.iconst 0, 1) := by decide +kernel
theorem dX2_readText_2 : decode cX2_readText 2 = .ok (.putfield 17, 3) := by decide +kernel
theorem dX2_readText_5 : decode cX2_readText 5 = .ok (.aload_n 0, 1) := by decide +kernel
theorem dX2_readText_6 : decode cX2_readText 6 = .ok (.invokevirtual 20, 3) := by decide +kernel
theorem dX2_readText_9 : decode cX2_readText 9 = .ok (.iconst 1, 1) := by decide +kernel
theorem dX2_readText_10 : decode cX2_readText 10 = .ok (.istore_n 2, 1) := by decide +kernel
theorem dX2_readText_11 : decode cX2_readText 11 = .ok (.iload_n 2, 1) := by decide +kernel
theorem dX2_readText_12 : decode cX2_readText 12 = .ok (.bipush 120, 2) := by decide +kernel
theorem dX2_readText_14 : decode cX2_readText 14 = .ok (.if_icmp .gt 44, 3) := by decide +kernel
theorem dX2_readText_17 : decode cX2_readText 17 = .ok (.aload_n 0, 1) := by decide +kernel
theorem dX2_readText_18 : decode cX2_readText 18 = .ok (.aload_n 1, 1) := by decide +kernel
theorem dX2_readText_19 : decode cX2_readText 19 = .ok (.invokevirtual 23, 3) := by decide +kernel
theorem dX2_readText_22 : decode cX2_readText 22 = .ok (.ifCond .ne 6, 3) := by decide +kernel
theorem dX2_readText_25 : decode cX2_readText 25 = .ok (.goto 33, 3) := by decide +kernel
theorem dX2_readText_28 : decode cX2_readText 28 = .ok (.aload_n 0, 1) := by decide +kernel
theorem dX2_readText_29 : decode cX2_readText 29 = .ok (.getfield 27, 3) := by decide +kernel
theorem dX2_readText_32 : decode cX2_readText 32 = .ok (.ifCond .ne 5, 3) := by decide +kernel
theorem dX2_readText_35 : decode cX2_readText 35 = .ok (.iload_n 2, 1) := by decide +kernel
theorem dX2_readText_36 : decode cX2_readText 36 = .ok (.ireturn, 1) := by decide +kernel
theorem dX2_readText_37 : decode cX2_readText 37 = .ok (.aload_n 0, 1) := by decide +kernel
theorem dX2_readText_38 : decode cX2_readText 38 = .ok (.getfield 27, 3) := by decide +kernel
theorem dX2_readText_41 : decode cX2_readText 41 = .ok (.iconst 3, 1) := by decide +kernel
theorem dX2_readText_42 : decode cX2_readText 42 = .ok (.if_icmp .eq 6, 3) := by decide +kernel
theorem dX2_readText_45 : decode cX2_readText 45 = .ok (.goto 13, 3) := by decide +kernel
theorem dX2_readText_48 : decode cX2_readText 48 = .ok (.aload_n 0, 1) := by decide +kernel
theorem dX2_readText_49 : decode cX2_readText 49 = .ok (.invokevirtual 20, 3) := by decide +kernel
theorem dX2_readText_52 : decode cX2_readText 52 = .ok (.iinc 2 1, 3) := by decide +kernel
theorem dX2_readText_55 : decode cX2_readText 55 = .ok (.goto (-44), 3) := by decide +kernel
theorem dX2_readText_58 : decode cX2_readText 58 = .ok (.iconst (-1), 1) := by decide +kernel
theorem dX2_readText_59 : decode cX2_readText 59 = .ok (.aload_n 0, 1) := by decide +kernel
theorem dX2_readText_60 : decode cX2_readText 60 = .ok (.getfield 30, 3) := by decide +kernel
theorem dX2_readText_63 : decode cX2_readText 63 = .ok (.isub, 1) := by decide +kernel
theorem dX2_readText_64 : decode cX2_readText 64 = .ok (.ireturn, 1) := by decide +kernel
theorem dX2_readItem_0 : decode cX2_readItem 0 = .ok (.aload_n 0, 1) := by decide +kernel
theorem dX2_readItem_1 : decode cX2_readItem 1 = .ok (.ldc 33, 2) := by decide +kernel
theorem dX2_readItem_3 : decode cX2_readItem 3 = .ok (.invokevirtual 35, 3) := by decide +kernel
theorem dX2_readItem_6 : decode cX2_readItem 6 = .ok (.ifCond .eq 9, 3) := by decide +kernel
theorem dX2_readItem_9 : decode cX2_readItem 9 = .ok (.aload_n 0, 1) := by decide +kernel
theorem dX2_readItem_10 : decode cX2_readItem 10 = .ok (.aload_n 1, 1) := by decide +kernel
theorem dX2_readItem_11 : decode cX2_readItem 11 = .ok (.invokevirtual 39, 3) := by decide +kernel
theorem dX2_readItem_14 : decode cX2_readItem 14 = .ok (.ireturn, 1) := by decide +kernel
theorem dX2_readItem_15 : decode cX2_readItem 15 = .ok (.aload_n 0, 1) := by decide +kernel
theorem dX2_readItem_16 : decode cX2_readItem 16 = .ok (.ldc 42, 2) := by decide +kernel
theorem dX2_readItem_18 : decode cX2_readItem 18 = .ok (.invokevirtual 35, 3) := by decide +kernel
theorem dX2_readItem_21 : decode cX2_readItem 21 = .ok (.ifCond .eq 9, 3) := by decide +kernel
theorem dX2_readItem_24 : decode cX2_readItem 24 = .ok (.aload_n 0, 1) := by decide +kernel
theorem dX2_readItem_25 : decode cX2_readItem 25 = .ok (.aload_n 1, 1) := by decide +kernel
theorem dX2_readItem_26 : decode cX2_readItem 26 = .ok (.invokevirtual 44, 3) := by decide +kernel
theorem dX2_readItem_29 : decode cX2_readItem 29 = .ok (.ireturn, 1) := by decide +kernel
theorem dX2_readItem_30 : decode cX2_readItem 30 = .ok (.iconst 0, 1) := by decide +kernel
theorem dX2_readItem_31 : decode cX2_readItem 31 = .ok (.istore_n 2, 1) := by decide +kernel
theorem dX2_readItem_32 : decode cX2_readItem 32 = .ok (.iload_n 2, 1) := by decide +kernel
theorem dX2_readItem_33 : decode cX2_readItem 33 = .ok (.bipush 7, 2) := by decide +kernel
theorem dX2_readItem_35 : decode cX2_readItem 35 = .ok (.if_icmp .ge 27, 3) := by decide +kernel
theorem dX2_readItem_38 : decode cX2_readItem 38 = .ok (.aload_n 0, 1) := by decide +kernel
theorem dX2_readItem_39 : decode cX2_readItem 39 = .ok (.iload_n 2, 1) := by decide +kernel
theorem dX2_readItem_40 : decode cX2_readItem 40 = .ok (.invokestatic 49, 3) := by decide +kernel
theorem dX2_readItem_43 : decode cX2_readItem 43 = .ok (.invokevirtual 35, 3) := by decide +kernel
theorem dX2_readItem_46 : decode cX2_readItem 46 = .ok (.ifCond .eq 10, 3) := by decide +kernel
theorem dX2_readItem_49 : decode cX2_readItem 49 = .ok (.aload_n 0, 1) := by decide +kernel
theorem dX2_readItem_50 : decode cX2_readItem 50 = .ok (.aload_n 1, 1) := by decide +kernel
theorem dX2_readItem_51 : decode cX2_readItem 51 = .ok (.iload_n 2, 1) := by decide +kernel
theorem dX2_readItem_52 : decode cX2_readItem 52 = .ok (.invokevirtual 53, 3) := by decide +kernel
theorem dX2_readItem_55 : decode cX2_readItem 55 = .ok (.ireturn, 1) := by decide +kernel
theorem dX2_readItem_56 : decode cX2_readItem 56 = .ok (.iinc 2 1, 3) := by decide +kernel
theorem dX2_readItem_59 : decode cX2_readItem 59 = .ok (.goto (-27), 3) := by decide +kernel
theorem dX2_readItem_62 : decode cX2_readItem 62 = .ok (.iconst 0, 1) := by decide +kernel
theorem dX2_readItem_63 : decode cX2_readItem 63 = .ok (.ireturn, 1) := by decide +kernel
theorem dX2_readDish_0 : decode cX2_readDish 0 = .ok (.aload_n 1, 1) := by decide +kernel
theorem dX2_readDish_1 : decode cX2_readDish 1 = .ok (.getfield 57, 3) := by decide +kernel
theorem dX2_readDish_4 : decode cX2_readDish 4 = .ok (.bipush 8, 2) := by decide +kernel
theorem dX2_readDish_6 : decode cX2_readDish 6 = .ok (.if_icmp .lt 5, 3) := by decide +kernel
theorem dX2_readDish_9 : decode cX2_readDish 9 = .ok (.iconst 0, 1) := by decide +kernel
theorem dX2_readDish_10 : decode cX2_readDish 10 = .ok (.ireturn, 1) := by decide +kernel
theorem dX2_readDish_11 : decode cX2_readDish 11 = .ok (.aload_n 0, 1) := by decide +kernel
theorem dX2_readDish_12 : decode cX2_readDish 12 = .ok (.invokevirtual 20, 3) := by decide +kernel
theorem dX2_readDish_15 : decode cX2_readDish 15 = .ok (.aload_n 0, 1) := by decide +kernel
theorem dX2_readDish_16 : decode cX2_readDish 16 = .ok (.bipush 11, 2) := by decide +kernel
theorem dX2_readDish_18 : decode cX2_readDish 18 = .ok (.invokevirtual 60, 3) := by decide +kernel
theorem dX2_readDish_21 : decode cX2_readDish 21 = .ok (.istore_n 3, 1) := by decide +kernel
theorem dX2_readDish_22 : decode cX2_readDish 22 = .ok (.iload_n 3, 1) := by decide +kernel
theorem dX2_readDish_23 : decode cX2_readDish 23 = .ok (.ifCond .ge 7, 3) := by decide +kernel
theorem dX2_readDish_26 : decode cX2_readDish 26 = .ok (.iconst (-1), 1) := by decide +kernel
theorem dX2_readDish_27 : decode cX2_readDish 27 = .ok (.goto 9, 3) := by decide +kernel
theorem dX2_readDish_30 : decode cX2_readDish 30 = .ok (.aload_n 0, 1) := by decide +kernel
theorem dX2_readDish_31 : decode cX2_readDish 31 = .ok (.bipush 11, 2) := by decide +kernel
theorem dX2_readDish_33 : decode cX2_readDish 33 = .ok (.invokevirtual 60, 3) := by decide +kernel
theorem dX2_readDish_36 : decode cX2_readDish 36 = .ok (.istore 4, 2) := by decide +kernel
theorem dX2_readDish_38 : decode cX2_readDish 38 = .ok (.iload 4, 2) := by decide +kernel
theorem dX2_readDish_40 : decode cX2_readDish 40 = .ok (.ifCond .ge 5, 3) := by decide +kernel
theorem dX2_readDish_43 : decode cX2_readDish 43 = .ok (.iconst 0, 1) := by decide +kernel
theorem dX2_readDish_44 : decode cX2_readDish 44 = .ok (.ireturn, 1) := by decide +kernel
theorem dX2_readDish_45 : decode cX2_readDish 45 = .ok (.aload_n 0, 1) := by decide +kernel
theorem dX2_readDish_46 : decode cX2_readDish 46 = .ok (.ldc 64, 2) := by decide +kernel
theorem dX2_readDish_48 : decode cX2_readDish 48 = .ok (.invokevirtual 66, 3) := by decide +kernel
theorem dX2_readDish_51 : decode cX2_readDish 51 = .ok (.ifCond .eq 12, 3) := by decide +kernel
theorem dX2_readDish_54 : decode cX2_readDish 54 = .ok (.aload_n 0, 1) := by decide +kernel
theorem dX2_readDish_55 : decode cX2_readDish 55 = .ok (.bipush 99, 2) := by decide +kernel
theorem dX2_readDish_57 : decode cX2_readDish 57 = .ok (.invokevirtual 60, 3) := by decide +kernel
theorem dX2_readDish_60 : decode cX2_readDish 60 = .ok (.goto 5, 3) := by decide +kernel
theorem dX2_readDish_63 : decode cX2_readDish 63 = .ok (.bipush 10, 2) := by decide +kernel
theorem dX2_readDish_65 : decode cX2_readDish 65 = .ok (.istore 5, 2) := by decide +kernel
theorem dX2_readDish_67 : decode cX2_readDish 67 = .ok (.iload 5, 2) := by decide +kernel
theorem dX2_readDish_69 : decode cX2_readDish 69 = .ok (.ifCond .ge 5, 3) := by decide +kernel
theorem dX2_readDish_72 : decode cX2_readDish 72 = .ok (.iconst 0, 1) := by decide +kernel
theorem dX2_readDish_73 : decode cX2_readDish 73 = .ok (.ireturn, 1) := by decide +kernel
theorem dX2_readDish_74 : decode cX2_readDish 74 = .ok (.aload_n 0, 1) := by decide +kernel
theorem dX2_readDish_75 : decode cX2_readDish 75 = .ok (.ldc 69, 2) := by decide +kernel
theorem dX2_readDish_77 : decode cX2_readDish 77 = .ok (.invokevirtual 66, 3) := by decide +kernel
theorem dX2_readDish_80 : decode cX2_readDish 80 = .ok (.ifCond .eq 13, 3) := by decide +kernel
theorem dX2_readDish_83 : decode cX2_readDish 83 = .ok (.aload_n 0, 1) := by decide +kernel
theorem dX2_readDish_84 : decode cX2_readDish 84 = .ok (.sipush 9999, 3) := by decide +kernel
theorem dX2_readDish_87 : decode cX2_readDish 87 = .ok (.invokevirtual 60, 3) := by decide +kernel
theorem dX2_readDish_90 : decode cX2_readDish 90 = .ok (.goto 4, 3) := by decide +kernel
theorem dX2_readDish_93 : decode cX2_readDish 93 = .ok (.iconst 0, 1) := by decide +kernel
theorem dX2_readDish_94 : decode cX2_readDish 94 = .ok (.istore 6, 2) := by decide +kernel
theorem dX2_readDish_96 : decode cX2_readDish 96 = .ok (.iload 6, 2) := by decide +kernel
theorem dX2_readDish_98 : decode cX2_readDish 98 = .ok (.ifCond .ge 5, 3) := by decide +kernel
theorem dX2_readDish_101 : decode cX2_readDish 101 = .ok (.iconst 0, 1) := by decide +kernel
theorem dX2_readDish_102 : decode cX2_readDish 102 = .ok (.ireturn, 1) := by decide +kernel
theorem dX2_readDish_103 : decode cX2_readDish 103 = .ok (.aload_n 1, 1) := by decide +kernel
theorem dX2_readDish_104 : decode cX2_readDish 104 = .ok (.iload_n 2, 1) := by decide +kernel
theorem dX2_readDish_105 : decode cX2_readDish 105 = .ok (.iload_n 3, 1) := by decide +kernel
theorem dX2_readDish_106 : decode cX2_readDish 106 = .ok (.iload 4, 2) := by decide +kernel
theorem dX2_readDish_108 : decode cX2_readDish 108 = .ok (.invokevirtual 71, 3) := by decide +kernel
theorem dX2_readDish_111 : decode cX2_readDish 111 = .ok (.istore 7, 2) := by decide +kernel
theorem dX2_readDish_113 : decode cX2_readDish 113 = .ok (.aload_n 1, 1) := by decide +kernel
theorem dX2_readDish_114 : decode cX2_readDish 114 = .ok (.iload 7, 2) := by decide +kernel
theorem dX2_readDish_116 : decode cX2_readDish 116 = .ok (.iconst 3, 1) := by decide +kernel
theorem dX2_readDish_117 : decode cX2_readDish 117 = .ok (.iload 5, 2) := by decide +kernel
theorem dX2_readDish_119 : decode cX2_readDish 119 = .ok (.invokevirtual 75, 3) := by decide +kernel
theorem dX2_readDish_122 : decode cX2_readDish 122 = .ok (.aload_n 1, 1) := by decide +kernel
theorem dX2_readDish_123 : decode cX2_readDish 123 = .ok (.iload 7, 2) := by decide +kernel
theorem dX2_readDish_125 : decode cX2_readDish 125 = .ok (.iconst 4, 1) := by decide +kernel
theorem dX2_readDish_126 : decode cX2_readDish 126 = .ok (.iload 6, 2) := by decide +kernel
theorem dX2_readDish_128 : decode cX2_readDish 128 = .ok (.invokevirtual 75, 3) := by decide +kernel
theorem dX2_readDish_131 : decode cX2_readDish 131 = .ok (.aload_n 1, 1) := by decide +kernel
theorem dX2_readDish_132 : decode cX2_readDish 132 = .ok (.iload 7, 2) := by decide +kernel
theorem dX2_readDish_134 : decode cX2_readDish 134 = .ok (.iconst 5, 1) := by decide +kernel
theorem dX2_readDish_135 : decode cX2_readDish 135 = .ok (.aload_n 0, 1) := by decide +kernel
theorem dX2_readDish_136 : decode cX2_readDish 136 = .ok (.ldc 79, 2) := by decide +kernel
theorem dX2_readDish_138 : decode cX2_readDish 138 = .ok (.invokevirtual 66, 3) := by decide +kernel
theorem dX2_readDish_141 : decode cX2_readDish 141 = .ok (.ifCond .eq 7, 3) := by decide +kernel
theorem dX2_readDish_144 : decode cX2_readDish 144 = .ok (.iconst 1, 1) := by decide +kernel
theorem dX2_readDish_145 : decode cX2_readDish 145 = .ok (.goto 4, 3) := by decide +kernel
theorem dX2_readDish_148 : decode cX2_readDish 148 = .ok (.iconst 0, 1) := by decide +kernel
theorem dX2_readDish_149 : decode cX2_readDish 149 = .ok (.invokevirtual 75, 3) := by decide +kernel
theorem dX2_readDish_152 : decode cX2_readDish 152 = .ok (.iconst 1, 1) := by decide +kernel
theorem dX2_readDish_153 : decode cX2_readDish 153 = .ok (.ireturn, 1) := by decide +kernel
theorem dX2_readGuest_0 : decode cX2_readGuest 0 = .ok (.aload_n 1, 1) := by decide +kernel
theorem dX2_readGuest_1 : decode cX2_readGuest 1 = .ok (.getfield 81, 3) := by decide +kernel
theorem dX2_readGuest_4 : decode cX2_readGuest 4 = .ok (.bipush 6, 2) := by decide +kernel
theorem dX2_readGuest_6 : decode cX2_readGuest 6 = .ok (.if_icmp .lt 5, 3) := by decide +kernel
theorem dX2_readGuest_9 : decode cX2_readGuest 9 = .ok (.iconst 0, 1) := by decide +kernel
theorem dX2_readGuest_10 : decode cX2_readGuest 10 = .ok (.ireturn, 1) := by decide +kernel
theorem dX2_readGuest_11 : decode cX2_readGuest 11 = .ok (.aload_n 0, 1) := by decide +kernel
theorem dX2_readGuest_12 : decode cX2_readGuest 12 = .ok (.invokevirtual 20, 3) := by decide +kernel
theorem dX2_readGuest_15 : decode cX2_readGuest 15 = .ok (.aload_n 0, 1) := by decide +kernel
theorem dX2_readGuest_16 : decode cX2_readGuest 16 = .ok (.bipush 99, 2) := by decide +kernel
theorem dX2_readGuest_18 : decode cX2_readGuest 18 = .ok (.invokevirtual 60, 3) := by decide +kernel
theorem dX2_readGuest_21 : decode cX2_readGuest 21 = .ok (.istore_n 2, 1) := by decide +kernel
theorem dX2_readGuest_22 : decode cX2_readGuest 22 = .ok (.iload_n 2, 1) := by decide +kernel
theorem dX2_readGuest_23 : decode cX2_readGuest 23 = .ok (.ifCond .ge 5, 3) := by decide +kernel
theorem dX2_readGuest_26 : decode cX2_readGuest 26 = .ok (.iconst 0, 1) := by decide +kernel
theorem dX2_readGuest_27 : decode cX2_readGuest 27 = .ok (.ireturn, 1) := by decide +kernel
theorem dX2_readGuest_28 : decode cX2_readGuest 28 = .ok (.aload_n 0, 1) := by decide +kernel
theorem dX2_readGuest_29 : decode cX2_readGuest 29 = .ok (.ldc 84, 2) := by decide +kernel
theorem dX2_readGuest_31 : decode cX2_readGuest 31 = .ok (.invokevirtual 66, 3) := by decide +kernel
theorem dX2_readGuest_34 : decode cX2_readGuest 34 = .ok (.ifCond .eq 12, 3) := by decide +kernel
theorem dX2_readGuest_37 : decode cX2_readGuest 37 = .ok (.aload_n 0, 1) := by decide +kernel
theorem dX2_readGuest_38 : decode cX2_readGuest 38 = .ok (.bipush 11, 2) := by decide +kernel
theorem dX2_readGuest_40 : decode cX2_readGuest 40 = .ok (.invokevirtual 60, 3) := by decide +kernel
theorem dX2_readGuest_43 : decode cX2_readGuest 43 = .ok (.goto 4, 3) := by decide +kernel
theorem dX2_readGuest_46 : decode cX2_readGuest 46 = .ok (.iconst 0, 1) := by decide +kernel
theorem dX2_readGuest_47 : decode cX2_readGuest 47 = .ok (.istore_n 3, 1) := by decide +kernel
theorem dX2_readGuest_48 : decode cX2_readGuest 48 = .ok (.iload_n 3, 1) := by decide +kernel
theorem dX2_readGuest_49 : decode cX2_readGuest 49 = .ok (.ifCond .ge 5, 3) := by decide +kernel
theorem dX2_readGuest_52 : decode cX2_readGuest 52 = .ok (.iconst 0, 1) := by decide +kernel
theorem dX2_readGuest_53 : decode cX2_readGuest 53 = .ok (.ireturn, 1) := by decide +kernel
theorem dX2_readGuest_54 : decode cX2_readGuest 54 = .ok (.aload_n 1, 1) := by decide +kernel
theorem dX2_readGuest_55 : decode cX2_readGuest 55 = .ok (.iload_n 2, 1) := by decide +kernel
theorem dX2_readGuest_56 : decode cX2_readGuest 56 = .ok (.invokevirtual 86, 3) := by decide +kernel
theorem dX2_readGuest_59 : decode cX2_readGuest 59 = .ok (.istore 4, 2) := by decide +kernel
theorem dX2_readGuest_61 : decode cX2_readGuest 61 = .ok (.aload_n 1, 1) := by decide +kernel
theorem dX2_readGuest_62 : decode cX2_readGuest 62 = .ok (.iload 4, 2) := by decide +kernel
theorem dX2_readGuest_64 : decode cX2_readGuest 64 = .ok (.iconst 1, 1) := by decide +kernel
theorem dX2_readGuest_65 : decode cX2_readGuest 65 = .ok (.iload_n 3, 1) := by decide +kernel
theorem dX2_readGuest_66 : decode cX2_readGuest 66 = .ok (.invokevirtual 89, 3) := by decide +kernel
theorem dX2_readGuest_69 : decode cX2_readGuest 69 = .ok (.iconst 1, 1) := by decide +kernel
theorem dX2_readGuest_70 : decode cX2_readGuest 70 = .ok (.ireturn, 1) := by decide +kernel
theorem dX2_readMeal_0 : decode cX2_readMeal 0 = .ok (.aload_n 0, 1) := by decide +kernel
theorem dX2_readMeal_1 : decode cX2_readMeal 1 = .ok (.invokevirtual 20, 3) := by decide +kernel
theorem dX2_readMeal_4 : decode cX2_readMeal 4 = .ok (.aload_n 0, 1) := by decide +kernel
theorem dX2_readMeal_5 : decode cX2_readMeal 5 = .ok (.iconst 5, 1) := by decide +kernel
theorem dX2_readMeal_6 : decode cX2_readMeal 6 = .ok (.invokevirtual 60, 3) := by decide +kernel
theorem dX2_readMeal_9 : decode cX2_readMeal 9 = .ok (.istore_n 2, 1) := by decide +kernel
theorem dX2_readMeal_10 : decode cX2_readMeal 10 = .ok (.iload_n 2, 1) := by decide +kernel
theorem dX2_readMeal_11 : decode cX2_readMeal 11 = .ok (.ifCond .ge 7, 3) := by decide +kernel
theorem dX2_readMeal_14 : decode cX2_readMeal 14 = .ok (.iconst (-1), 1) := by decide +kernel
theorem dX2_readMeal_15 : decode cX2_readMeal 15 = .ok (.goto 8, 3) := by decide +kernel
theorem dX2_readMeal_18 : decode cX2_readMeal 18 = .ok (.aload_n 0, 1) := by decide +kernel
theorem dX2_readMeal_19 : decode cX2_readMeal 19 = .ok (.iconst 5, 1) := by decide +kernel
theorem dX2_readMeal_20 : decode cX2_readMeal 20 = .ok (.invokevirtual 60, 3) := by decide +kernel
theorem dX2_readMeal_23 : decode cX2_readMeal 23 = .ok (.istore_n 3, 1) := by decide +kernel
theorem dX2_readMeal_24 : decode cX2_readMeal 24 = .ok (.iload_n 3, 1) := by decide +kernel
theorem dX2_readMeal_25 : decode cX2_readMeal 25 = .ok (.ifCond .ge 7, 3) := by decide +kernel
theorem dX2_readMeal_28 : decode cX2_readMeal 28 = .ok (.iconst (-1), 1) := by decide +kernel
theorem dX2_readMeal_29 : decode cX2_readMeal 29 = .ok (.goto 9, 3) := by decide +kernel
theorem dX2_readMeal_32 : decode cX2_readMeal 32 = .ok (.aload_n 0, 1) := by decide +kernel
theorem dX2_readMeal_33 : decode cX2_readMeal 33 = .ok (.bipush 7, 2) := by decide +kernel
theorem dX2_readMeal_35 : decode cX2_readMeal 35 = .ok (.invokevirtual 60, 3) := by decide +kernel
theorem dX2_readMeal_38 : decode cX2_readMeal 38 = .ok (.istore 4, 2) := by decide +kernel
theorem dX2_readMeal_40 : decode cX2_readMeal 40 = .ok (.iload 4, 2) := by decide +kernel
theorem dX2_readMeal_42 : decode cX2_readMeal 42 = .ok (.ifCond .ge 5, 3) := by decide +kernel
theorem dX2_readMeal_45 : decode cX2_readMeal 45 = .ok (.iconst 0, 1) := by decide +kernel
theorem dX2_readMeal_46 : decode cX2_readMeal 46 = .ok (.ireturn, 1) := by decide +kernel
theorem dX2_readMeal_47 : decode cX2_readMeal 47 = .ok (.aload_n 1, 1) := by decide +kernel
theorem dX2_readMeal_48 : decode cX2_readMeal 48 = .ok (.iload_n 2, 1) := by decide +kernel
theorem dX2_readMeal_49 : decode cX2_readMeal 49 = .ok (.iload_n 3, 1) := by decide +kernel
theorem dX2_readMeal_50 : decode cX2_readMeal 50 = .ok (.iload 4, 2) := by decide +kernel
theorem dX2_readMeal_52 : decode cX2_readMeal 52 = .ok (.invokevirtual 92, 3) := by decide +kernel
theorem dX2_readMeal_55 : decode cX2_readMeal 55 = .ok (.iconst 1, 1) := by decide +kernel
theorem dX2_readMeal_56 : decode cX2_readMeal 56 = .ok (.ireturn, 1) := by decide +kernel
theorem dX2_takeWord_0 : decode cX2_takeWord 0 = .ok (.aload_n 0, 1) := by decide +kernel
theorem dX2_takeWord_1 : decode cX2_takeWord 1 = .ok (.aload_n 1, 1) := by decide +kernel
theorem dX2_takeWord_2 : decode cX2_takeWord 2 = .ok (.invokevirtual 35, 3) := by decide +kernel
theorem dX2_takeWord_5 : decode cX2_takeWord 5 = .ok (.ifCond .ne 5, 3) := by decide +kernel
theorem dX2_takeWord_8 : decode cX2_takeWord 8 = .ok (.iconst 0, 1) := by decide +kernel
theorem dX2_takeWord_9 : decode cX2_takeWord 9 = .ok (.ireturn, 1) := by decide +kernel
theorem dX2_takeWord_10 : decode cX2_takeWord 10 = .ok (.aload_n 0, 1) := by decide +kernel
theorem dX2_takeWord_11 : decode cX2_takeWord 11 = .ok (.invokevirtual 20, 3) := by decide +kernel
theorem dX2_takeWord_14 : decode cX2_takeWord 14 = .ok (.iconst 1, 1) := by decide +kernel
theorem dX2_takeWord_15 : decode cX2_takeWord 15 = .ok (.ireturn, 1) := by decide +kernel
theorem dX2_takeNumber_0 : decode cX2_takeNumber 0 = .ok (.aload_n 0, 1) := by decide +kernel
theorem dX2_takeNumber_1 : decode cX2_takeNumber 1 = .ok (.getfield 27, 3) := by decide +kernel
theorem dX2_takeNumber_4 : decode cX2_takeNumber 4 = .ok (.iconst 2, 1) := by decide +kernel
theorem dX2_takeNumber_5 : decode cX2_takeNumber 5 = .ok (.if_icmp .ne 11, 3) := by decide +kernel
theorem dX2_takeNumber_8 : decode cX2_takeNumber 8 = .ok (.aload_n 0, 1) := by decide +kernel
theorem dX2_takeNumber_9 : decode cX2_takeNumber 9 = .ok (.getfield 95, 3) := by decide +kernel
theorem dX2_takeNumber_12 : decode cX2_takeNumber 12 = .ok (.iload_n 1, 1) := by decide +kernel
theorem dX2_takeNumber_13 : decode cX2_takeNumber 13 = .ok (.if_icmp .le 5, 3) := by decide +kernel
theorem dX2_takeNumber_16 : decode cX2_takeNumber 16 = .ok (.iconst (-1), 1) := by decide +kernel
theorem dX2_takeNumber_17 : decode cX2_takeNumber 17 = .ok (.ireturn, 1) := by decide +kernel
theorem dX2_takeNumber_18 : decode cX2_takeNumber 18 = .ok (.aload_n 0, 1) := by decide +kernel
theorem dX2_takeNumber_19 : decode cX2_takeNumber 19 = .ok (.getfield 95, 3) := by decide +kernel
theorem dX2_takeNumber_22 : decode cX2_takeNumber 22 = .ok (.istore_n 2, 1) := by decide +kernel
theorem dX2_takeNumber_23 : decode cX2_takeNumber 23 = .ok (.aload_n 0, 1) := by decide +kernel
theorem dX2_takeNumber_24 : decode cX2_takeNumber 24 = .ok (.invokevirtual 20, 3) := by decide +kernel
theorem dX2_takeNumber_27 : decode cX2_takeNumber 27 = .ok (.iload_n 2, 1) := by decide +kernel
theorem dX2_takeNumber_28 : decode cX2_takeNumber 28 = .ok (.ireturn, 1) := by decide +kernel
theorem dX2_isWord_0 : decode cX2_isWord 0 = .ok (.aload_n 0, 1) := by decide +kernel
theorem dX2_isWord_1 : decode cX2_isWord 1 = .ok (.getfield 27, 3) := by decide +kernel
theorem dX2_isWord_4 : decode cX2_isWord 4 = .ok (.iconst 1, 1) := by decide +kernel
theorem dX2_isWord_5 : decode cX2_isWord 5 = .ok (.if_icmp .ne 19, 3) := by decide +kernel
theorem dX2_isWord_8 : decode cX2_isWord 8 = .ok (.aload_n 0, 1) := by decide +kernel
theorem dX2_isWord_9 : decode cX2_isWord 9 = .ok (.getfield 17, 3) := by decide +kernel
theorem dX2_isWord_12 : decode cX2_isWord 12 = .ok (.aload_n 0, 1) := by decide +kernel
theorem dX2_isWord_13 : decode cX2_isWord 13 = .ok (.getfield 30, 3) := by decide +kernel
theorem dX2_isWord_16 : decode cX2_isWord 16 = .ok (.isub, 1) := by decide +kernel
theorem dX2_isWord_17 : decode cX2_isWord 17 = .ok (.aload_n 1, 1) := by decide +kernel
theorem dX2_isWord_18 : decode cX2_isWord 18 = .ok (.invokevirtual 98, 3) := by decide +kernel
theorem dX2_isWord_21 : decode cX2_isWord 21 = .ok (.if_icmp .eq 5, 3) := by decide +kernel
theorem dX2_isWord_24 : decode cX2_isWord 24 = .ok (.iconst 0, 1) := by decide +kernel
theorem dX2_isWord_25 : decode cX2_isWord 25 = .ok (.ireturn, 1) := by decide +kernel
theorem dX2_isWord_26 : decode cX2_isWord 26 = .ok (.iconst 0, 1) := by decide +kernel
theorem dX2_isWord_27 : decode cX2_isWord 27 = .ok (.istore_n 2, 1) := by decide +kernel
theorem dX2_isWord_28 : decode cX2_isWord 28 = .ok (.iload_n 2, 1) := by decide +kernel
theorem dX2_isWord_29 : decode cX2_isWord 29 = .ok (.aload_n 1, 1) := by decide +kernel
theorem dX2_isWord_30 : decode cX2_isWord 30 = .ok (.invokevirtual 98, 3) := by decide +kernel
theorem dX2_isWord_33 : decode cX2_isWord 33 = .ok (.if_icmp .ge 30, 3) := by decide +kernel
theorem dX2_isWord_36 : decode cX2_isWord 36 = .ok (.aload_n 0, 1) := by decide +kernel
theorem dX2_isWord_37 : decode cX2_isWord 37 = .ok (.getfield 9, 3) := by decide +kernel
theorem dX2_isWord_40 : decode cX2_isWord 40 = .ok (.aload_n 0, 1) := by decide +kernel
theorem dX2_isWord_41 : decode cX2_isWord 41 = .ok (.getfield 30, 3) := by decide +kernel
theorem dX2_isWord_44 : decode cX2_isWord 44 = .ok (.iload_n 2, 1) := by decide +kernel
theorem dX2_isWord_45 : decode cX2_isWord 45 = .ok (.iadd, 1) := by decide +kernel
theorem dX2_isWord_46 : decode cX2_isWord 46 = .ok (.baload, 1) := by decide +kernel
theorem dX2_isWord_47 : decode cX2_isWord 47 = .ok (.aload_n 1, 1) := by decide +kernel
theorem dX2_isWord_48 : decode cX2_isWord 48 = .ok (.iload_n 2, 1) := by decide +kernel
theorem dX2_isWord_49 : decode cX2_isWord 49 = .ok (.invokevirtual 103, 3) := by decide +kernel
theorem dX2_isWord_52 : decode cX2_isWord 52 = .ok (.if_icmp .eq 5, 3) := by decide +kernel
theorem dX2_isWord_55 : decode cX2_isWord 55 = .ok (.iconst 0, 1) := by decide +kernel
theorem dX2_isWord_56 : decode cX2_isWord 56 = .ok (.ireturn, 1) := by decide +kernel
theorem dX2_isWord_57 : decode cX2_isWord 57 = .ok (.iinc 2 1, 3) := by decide +kernel
theorem dX2_isWord_60 : decode cX2_isWord 60 = .ok (.goto (-32), 3) := by decide +kernel
theorem dX2_isWord_63 : decode cX2_isWord 63 = .ok (.iconst 1, 1) := by decide +kernel
theorem dX2_isWord_64 : decode cX2_isWord 64 = .ok (.ireturn, 1) := by decide +kernel
theorem dX2_wordOf_0 : decode cX2_wordOf 0 = .ok (.iload_n 0, 1) := by decide +kernel
theorem dX2_wordOf_1 : decode cX2_wordOf 1 = .ok (.tableswitch 57 1 6 #[39, 42, 45, 48, 51, 54], 39) := by decide +kernel
theorem dX2_wordOf_40 : decode cX2_wordOf 40 = .ok (.ldc 107, 2) := by decide +kernel
theorem dX2_wordOf_42 : decode cX2_wordOf 42 = .ok (.areturn, 1) := by decide +kernel
theorem dX2_wordOf_43 : decode cX2_wordOf 43 = .ok (.ldc 109, 2) := by decide +kernel
theorem dX2_wordOf_45 : decode cX2_wordOf 45 = .ok (.areturn, 1) := by decide +kernel
theorem dX2_wordOf_46 : decode cX2_wordOf 46 = .ok (.ldc 111, 2) := by decide +kernel
theorem dX2_wordOf_48 : decode cX2_wordOf 48 = .ok (.areturn, 1) := by decide +kernel
theorem dX2_wordOf_49 : decode cX2_wordOf 49 = .ok (.ldc 113, 2) := by decide +kernel
theorem dX2_wordOf_51 : decode cX2_wordOf 51 = .ok (.areturn, 1) := by decide +kernel
theorem dX2_wordOf_52 : decode cX2_wordOf 52 = .ok (.ldc 115, 2) := by decide +kernel
theorem dX2_wordOf_54 : decode cX2_wordOf 54 = .ok (.areturn, 1) := by decide +kernel
theorem dX2_wordOf_55 : decode cX2_wordOf 55 = .ok (.ldc 117, 2) := by decide +kernel
theorem dX2_wordOf_57 : decode cX2_wordOf 57 = .ok (.areturn, 1) := by decide +kernel
theorem dX2_wordOf_58 : decode cX2_wordOf 58 = .ok (.ldc 119, 2) := by decide +kernel
theorem dX2_wordOf_60 : decode cX2_wordOf 60 = .ok (.areturn, 1) := by decide +kernel
theorem dX2_nextToken_0 : decode cX2_nextToken 0 = .ok (.aload_n 0, 1) := by decide +kernel
theorem dX2_nextToken_1 : decode cX2_nextToken 1 = .ok (.aload_n 0, 1) := by decide +kernel
theorem dX2_nextToken_2 : decode cX2_nextToken 2 = .ok (.getfield 17, 3) := by decide +kernel
theorem dX2_nextToken_5 : decode cX2_nextToken 5 = .ok (.putfield 30, 3) := by decide +kernel
theorem dX2_nextToken_8 : decode cX2_nextToken 8 = .ok (.aload_n 0, 1) := by decide +kernel
theorem dX2_nextToken_9 : decode cX2_nextToken 9 = .ok (.getfield 30, 3) := by decide +kernel
theorem dX2_nextToken_12 : decode cX2_nextToken 12 = .ok (.aload_n 0, 1) := by decide +kernel
theorem dX2_nextToken_13 : decode cX2_nextToken 13 = .ok (.getfield 13, 3) := by decide +kernel
theorem dX2_nextToken_16 : decode cX2_nextToken 16 = .ok (.if_icmp .ge 30, 3) := by decide +kernel
theorem dX2_nextToken_19 : decode cX2_nextToken 19 = .ok (.aload_n 0, 1) := by decide +kernel
theorem dX2_nextToken_20 : decode cX2_nextToken 20 = .ok (.getfield 9, 3) := by decide +kernel
theorem dX2_nextToken_23 : decode cX2_nextToken 23 = .ok (.aload_n 0, 1) := by decide +kernel
theorem dX2_nextToken_24 : decode cX2_nextToken 24 = .ok (.getfield 30, 3) := by decide +kernel
theorem dX2_nextToken_27 : decode cX2_nextToken 27 = .ok (.baload, 1) := by decide +kernel
theorem dX2_nextToken_28 : decode cX2_nextToken 28 = .ok (.bipush 32, 2) := by decide +kernel
theorem dX2_nextToken_30 : decode cX2_nextToken 30 = .ok (.if_icmp .ne 16, 3) := by decide +kernel
theorem dX2_nextToken_33 : decode cX2_nextToken 33 = .ok (.aload_n 0, 1) := by decide +kernel
theorem dX2_nextToken_34 : decode cX2_nextToken 34 = .ok (.dup, 1) := by decide +kernel
theorem dX2_nextToken_35 : decode cX2_nextToken 35 = .ok (.getfield 30, 3) := by decide +kernel
theorem dX2_nextToken_38 : decode cX2_nextToken 38 = .ok (.iconst 1, 1) := by decide +kernel
theorem dX2_nextToken_39 : decode cX2_nextToken 39 = .ok (.iadd, 1) := by decide +kernel
theorem dX2_nextToken_40 : decode cX2_nextToken 40 = .ok (.putfield 30, 3) := by decide +kernel
theorem dX2_nextToken_43 : decode cX2_nextToken 43 = .ok (.goto (-35), 3) := by decide +kernel
theorem dX2_nextToken_46 : decode cX2_nextToken 46 = .ok (.aload_n 0, 1) := by decide +kernel
theorem dX2_nextToken_47 : decode cX2_nextToken 47 = .ok (.aload_n 0, 1) := by decide +kernel
theorem dX2_nextToken_48 : decode cX2_nextToken 48 = .ok (.getfield 30, 3) := by decide +kernel
theorem dX2_nextToken_51 : decode cX2_nextToken 51 = .ok (.putfield 17, 3) := by decide +kernel
theorem dX2_nextToken_54 : decode cX2_nextToken 54 = .ok (.aload_n 0, 1) := by decide +kernel
theorem dX2_nextToken_55 : decode cX2_nextToken 55 = .ok (.iconst 0, 1) := by decide +kernel
theorem dX2_nextToken_56 : decode cX2_nextToken 56 = .ok (.putfield 95, 3) := by decide +kernel
theorem dX2_nextToken_59 : decode cX2_nextToken 59 = .ok (.aload_n 0, 1) := by decide +kernel
theorem dX2_nextToken_60 : decode cX2_nextToken 60 = .ok (.getfield 30, 3) := by decide +kernel
theorem dX2_nextToken_63 : decode cX2_nextToken 63 = .ok (.aload_n 0, 1) := by decide +kernel
theorem dX2_nextToken_64 : decode cX2_nextToken 64 = .ok (.getfield 13, 3) := by decide +kernel
theorem dX2_nextToken_67 : decode cX2_nextToken 67 = .ok (.if_icmp .lt 9, 3) := by decide +kernel
theorem dX2_nextToken_70 : decode cX2_nextToken 70 = .ok (.aload_n 0, 1) := by decide +kernel
theorem dX2_nextToken_71 : decode cX2_nextToken 71 = .ok (.iconst 0, 1) := by decide +kernel
theorem dX2_nextToken_72 : decode cX2_nextToken 72 = .ok (.putfield 27, 3) := by decide +kernel
theorem dX2_nextToken_75 : decode cX2_nextToken 75 = .ok (.return_, 1) := by decide +kernel
theorem dX2_nextToken_76 : decode cX2_nextToken 76 = .ok (.aload_n 0, 1) := by decide +kernel
theorem dX2_nextToken_77 : decode cX2_nextToken 77 = .ok (.aload_n 0, 1) := by decide +kernel
theorem dX2_nextToken_78 : decode cX2_nextToken 78 = .ok (.getfield 9, 3) := by decide +kernel
theorem dX2_nextToken_81 : decode cX2_nextToken 81 = .ok (.aload_n 0, 1) := by decide +kernel
theorem dX2_nextToken_82 : decode cX2_nextToken 82 = .ok (.getfield 30, 3) := by decide +kernel
theorem dX2_nextToken_85 : decode cX2_nextToken 85 = .ok (.baload, 1) := by decide +kernel
theorem dX2_nextToken_86 : decode cX2_nextToken 86 = .ok (.invokestatic 121, 3) := by decide +kernel
theorem dX2_nextToken_89 : decode cX2_nextToken 89 = .ok (.putfield 27, 3) := by decide +kernel
theorem dX2_nextToken_92 : decode cX2_nextToken 92 = .ok (.aload_n 0, 1) := by decide +kernel
theorem dX2_nextToken_93 : decode cX2_nextToken 93 = .ok (.getfield 27, 3) := by decide +kernel
theorem dX2_nextToken_96 : decode cX2_nextToken 96 = .ok (.iconst 2, 1) := by decide +kernel
theorem dX2_nextToken_97 : decode cX2_nextToken 97 = .ok (.if_icmp .ne 37, 3) := by decide +kernel
theorem dX2_nextToken_100 : decode cX2_nextToken 100 = .ok (.aload_n 0, 1) := by decide +kernel
theorem dX2_nextToken_101 : decode cX2_nextToken 101 = .ok (.getfield 95, 3) := by decide +kernel
theorem dX2_nextToken_104 : decode cX2_nextToken 104 = .ok (.sipush 9999, 3) := by decide +kernel
theorem dX2_nextToken_107 : decode cX2_nextToken 107 = .ok (.if_icmp .gt 27, 3) := by decide +kernel
theorem dX2_nextToken_110 : decode cX2_nextToken 110 = .ok (.aload_n 0, 1) := by decide +kernel
theorem dX2_nextToken_111 : decode cX2_nextToken 111 = .ok (.bipush 10, 2) := by decide +kernel
theorem dX2_nextToken_113 : decode cX2_nextToken 113 = .ok (.aload_n 0, 1) := by decide +kernel
theorem dX2_nextToken_114 : decode cX2_nextToken 114 = .ok (.getfield 95, 3) := by decide +kernel
theorem dX2_nextToken_117 : decode cX2_nextToken 117 = .ok (.imul, 1) := by decide +kernel
theorem dX2_nextToken_118 : decode cX2_nextToken 118 = .ok (.aload_n 0, 1) := by decide +kernel
theorem dX2_nextToken_119 : decode cX2_nextToken 119 = .ok (.getfield 9, 3) := by decide +kernel
theorem dX2_nextToken_122 : decode cX2_nextToken 122 = .ok (.aload_n 0, 1) := by decide +kernel
theorem dX2_nextToken_123 : decode cX2_nextToken 123 = .ok (.getfield 17, 3) := by decide +kernel
theorem dX2_nextToken_126 : decode cX2_nextToken 126 = .ok (.baload, 1) := by decide +kernel
theorem dX2_nextToken_127 : decode cX2_nextToken 127 = .ok (.bipush 48, 2) := by decide +kernel
theorem dX2_nextToken_129 : decode cX2_nextToken 129 = .ok (.isub, 1) := by decide +kernel
theorem dX2_nextToken_130 : decode cX2_nextToken 130 = .ok (.iadd, 1) := by decide +kernel
theorem dX2_nextToken_131 : decode cX2_nextToken 131 = .ok (.putfield 95, 3) := by decide +kernel
theorem dX2_nextToken_134 : decode cX2_nextToken 134 = .ok (.aload_n 0, 1) := by decide +kernel
theorem dX2_nextToken_135 : decode cX2_nextToken 135 = .ok (.dup, 1) := by decide +kernel
theorem dX2_nextToken_136 : decode cX2_nextToken 136 = .ok (.getfield 17, 3) := by decide +kernel
theorem dX2_nextToken_139 : decode cX2_nextToken 139 = .ok (.iconst 1, 1) := by decide +kernel
theorem dX2_nextToken_140 : decode cX2_nextToken 140 = .ok (.iadd, 1) := by decide +kernel
theorem dX2_nextToken_141 : decode cX2_nextToken 141 = .ok (.putfield 17, 3) := by decide +kernel
theorem dX2_nextToken_144 : decode cX2_nextToken 144 = .ok (.aload_n 0, 1) := by decide +kernel
theorem dX2_nextToken_145 : decode cX2_nextToken 145 = .ok (.getfield 27, 3) := by decide +kernel
theorem dX2_nextToken_148 : decode cX2_nextToken 148 = .ok (.iconst 3, 1) := by decide +kernel
theorem dX2_nextToken_149 : decode cX2_nextToken 149 = .ok (.if_icmp .eq 33, 3) := by decide +kernel
theorem dX2_nextToken_152 : decode cX2_nextToken 152 = .ok (.aload_n 0, 1) := by decide +kernel
theorem dX2_nextToken_153 : decode cX2_nextToken 153 = .ok (.getfield 17, 3) := by decide +kernel
theorem dX2_nextToken_156 : decode cX2_nextToken 156 = .ok (.aload_n 0, 1) := by decide +kernel
theorem dX2_nextToken_157 : decode cX2_nextToken 157 = .ok (.getfield 13, 3) := by decide +kernel
theorem dX2_nextToken_160 : decode cX2_nextToken 160 = .ok (.if_icmp .ge 22, 3) := by decide +kernel
theorem dX2_nextToken_163 : decode cX2_nextToken 163 = .ok (.aload_n 0, 1) := by decide +kernel
theorem dX2_nextToken_164 : decode cX2_nextToken 164 = .ok (.getfield 9, 3) := by decide +kernel
theorem dX2_nextToken_167 : decode cX2_nextToken 167 = .ok (.aload_n 0, 1) := by decide +kernel
theorem dX2_nextToken_168 : decode cX2_nextToken 168 = .ok (.getfield 17, 3) := by decide +kernel
theorem dX2_nextToken_171 : decode cX2_nextToken 171 = .ok (.baload, 1) := by decide +kernel
theorem dX2_nextToken_172 : decode cX2_nextToken 172 = .ok (.invokestatic 121, 3) := by decide +kernel
theorem dX2_nextToken_175 : decode cX2_nextToken 175 = .ok (.aload_n 0, 1) := by decide +kernel
theorem dX2_nextToken_176 : decode cX2_nextToken 176 = .ok (.getfield 27, 3) := by decide +kernel
theorem dX2_nextToken_179 : decode cX2_nextToken 179 = .ok (.if_icmp .eq (-87), 3) := by decide +kernel
theorem dX2_nextToken_182 : decode cX2_nextToken 182 = .ok (.return_, 1) := by decide +kernel
theorem dX2_tokenBegunBy_0 : decode cX2_tokenBegunBy 0 = .ok (.iload_n 0, 1) := by decide +kernel
theorem dX2_tokenBegunBy_1 : decode cX2_tokenBegunBy 1 = .ok (.bipush 97, 2) := by decide +kernel
theorem dX2_tokenBegunBy_3 : decode cX2_tokenBegunBy 3 = .ok (.if_icmp .lt 11, 3) := by decide +kernel
theorem dX2_tokenBegunBy_6 : decode cX2_tokenBegunBy 6 = .ok (.iload_n 0, 1) := by decide +kernel
theorem dX2_tokenBegunBy_7 : decode cX2_tokenBegunBy 7 = .ok (.bipush 122, 2) := by decide +kernel
theorem dX2_tokenBegunBy_9 : decode cX2_tokenBegunBy 9 = .ok (.if_icmp .gt 5, 3) := by decide +kernel
theorem dX2_tokenBegunBy_12 : decode cX2_tokenBegunBy 12 = .ok (.iconst 1, 1) := by decide +kernel
theorem dX2_tokenBegunBy_13 : decode cX2_tokenBegunBy 13 = .ok (.ireturn, 1) := by decide +kernel
theorem dX2_tokenBegunBy_14 : decode cX2_tokenBegunBy 14 = .ok (.iload_n 0, 1) := by decide +kernel
theorem dX2_tokenBegunBy_15 : decode cX2_tokenBegunBy 15 = .ok (.bipush 48, 2) := by decide +kernel
theorem dX2_tokenBegunBy_17 : decode cX2_tokenBegunBy 17 = .ok (.if_icmp .lt 11, 3) := by decide +kernel
theorem dX2_tokenBegunBy_20 : decode cX2_tokenBegunBy 20 = .ok (.iload_n 0, 1) := by decide +kernel
theorem dX2_tokenBegunBy_21 : decode cX2_tokenBegunBy 21 = .ok (.bipush 57, 2) := by decide +kernel
theorem dX2_tokenBegunBy_23 : decode cX2_tokenBegunBy 23 = .ok (.if_icmp .gt 5, 3) := by decide +kernel
theorem dX2_tokenBegunBy_26 : decode cX2_tokenBegunBy 26 = .ok (.iconst 2, 1) := by decide +kernel
theorem dX2_tokenBegunBy_27 : decode cX2_tokenBegunBy 27 = .ok (.ireturn, 1) := by decide +kernel
theorem dX2_tokenBegunBy_28 : decode cX2_tokenBegunBy 28 = .ok (.iload_n 0, 1) := by decide +kernel
theorem dX2_tokenBegunBy_29 : decode cX2_tokenBegunBy 29 = .ok (.bipush 59, 2) := by decide +kernel
theorem dX2_tokenBegunBy_31 : decode cX2_tokenBegunBy 31 = .ok (.if_icmp .ne 7, 3) := by decide +kernel
theorem dX2_tokenBegunBy_34 : decode cX2_tokenBegunBy 34 = .ok (.iconst 3, 1) := by decide +kernel
theorem dX2_tokenBegunBy_35 : decode cX2_tokenBegunBy 35 = .ok (.goto 4, 3) := by decide +kernel
theorem dX2_tokenBegunBy_38 : decode cX2_tokenBegunBy 38 = .ok (.iconst 4, 1) := by decide +kernel
theorem dX2_tokenBegunBy_39 : decode cX2_tokenBegunBy 39 = .ok (.ireturn, 1) := by decide +kernel
theorem dJ6_bitCount_0f7a4_0 : decode cJ6_bitCount_0f7a4 0 = .ok (.iload_n 0, 1) := by decide +kernel
theorem dJ6_bitCount_0f7a4_1 : decode cJ6_bitCount_0f7a4 1 = .ok (.iload_n 0, 1) := by decide +kernel
theorem dJ6_bitCount_0f7a4_2 : decode cJ6_bitCount_0f7a4 2 = .ok (.iconst 1, 1) := by decide +kernel
theorem dJ6_bitCount_0f7a4_3 : decode cJ6_bitCount_0f7a4 3 = .ok (.iushr, 1) := by decide +kernel
theorem dJ6_bitCount_0f7a4_4 : decode cJ6_bitCount_0f7a4 4 = .ok (.ldc_w 265, 3) := by decide +kernel
theorem dJ6_bitCount_0f7a4_7 : decode cJ6_bitCount_0f7a4 7 = .ok (.iand, 1) := by decide +kernel
theorem dJ6_bitCount_0f7a4_8 : decode cJ6_bitCount_0f7a4 8 = .ok (.isub, 1) := by decide +kernel
theorem dJ6_bitCount_0f7a4_9 : decode cJ6_bitCount_0f7a4 9 = .ok (.istore_n 0, 1) := by decide +kernel
theorem dJ6_bitCount_0f7a4_10 : decode cJ6_bitCount_0f7a4 10 = .ok (.iload_n 0, 1) := by decide +kernel
theorem dJ6_bitCount_0f7a4_11 : decode cJ6_bitCount_0f7a4 11 = .ok (.ldc_w 266, 3) := by decide +kernel
theorem dJ6_bitCount_0f7a4_14 : decode cJ6_bitCount_0f7a4 14 = .ok (.iand, 1) := by decide +kernel
theorem dJ6_bitCount_0f7a4_15 : decode cJ6_bitCount_0f7a4 15 = .ok (.iload_n 0, 1) := by decide +kernel
theorem dJ6_bitCount_0f7a4_16 : decode cJ6_bitCount_0f7a4 16 = .ok (.iconst 2, 1) := by decide +kernel
theorem dJ6_bitCount_0f7a4_17 : decode cJ6_bitCount_0f7a4 17 = .ok (.iushr, 1) := by decide +kernel
theorem dJ6_bitCount_0f7a4_18 : decode cJ6_bitCount_0f7a4 18 = .ok (.ldc_w 266, 3) := by decide +kernel
theorem dJ6_bitCount_0f7a4_21 : decode cJ6_bitCount_0f7a4 21 = .ok (.iand, 1) := by decide +kernel
theorem dJ6_bitCount_0f7a4_22 : decode cJ6_bitCount_0f7a4 22 = .ok (.iadd, 1) := by decide +kernel
theorem dJ6_bitCount_0f7a4_23 : decode cJ6_bitCount_0f7a4 23 = .ok (.istore_n 0, 1) := by decide +kernel
theorem dJ6_bitCount_0f7a4_24 : decode cJ6_bitCount_0f7a4 24 = .ok (.iload_n 0, 1) := by decide +kernel
theorem dJ6_bitCount_0f7a4_25 : decode cJ6_bitCount_0f7a4 25 = .ok (.iload_n 0, 1) := by decide +kernel
theorem dJ6_bitCount_0f7a4_26 : decode cJ6_bitCount_0f7a4 26 = .ok (.iconst 4, 1) := by decide +kernel
theorem dJ6_bitCount_0f7a4_27 : decode cJ6_bitCount_0f7a4 27 = .ok (.iushr, 1) := by decide +kernel
theorem dJ6_bitCount_0f7a4_28 : decode cJ6_bitCount_0f7a4 28 = .ok (.iadd, 1) := by decide +kernel
theorem dJ6_bitCount_0f7a4_29 : decode cJ6_bitCount_0f7a4 29 = .ok (.ldc_w 267, 3) := by decide +kernel
theorem dJ6_bitCount_0f7a4_32 : decode cJ6_bitCount_0f7a4 32 = .ok (.iand, 1) := by decide +kernel
theorem dJ6_bitCount_0f7a4_33 : decode cJ6_bitCount_0f7a4 33 = .ok (.istore_n 0, 1) := by decide +kernel
theorem dJ6_bitCount_0f7a4_34 : decode cJ6_bitCount_0f7a4 34 = .ok (.iload_n 0, 1) := by decide +kernel
theorem dJ6_bitCount_0f7a4_35 : decode cJ6_bitCount_0f7a4 35 = .ok (.iload_n 0, 1) := by decide +kernel
theorem dJ6_bitCount_0f7a4_36 : decode cJ6_bitCount_0f7a4 36 = .ok (.bipush 8, 2) := by decide +kernel
theorem dJ6_bitCount_0f7a4_38 : decode cJ6_bitCount_0f7a4 38 = .ok (.iushr, 1) := by decide +kernel
theorem dJ6_bitCount_0f7a4_39 : decode cJ6_bitCount_0f7a4 39 = .ok (.iadd, 1) := by decide +kernel
theorem dJ6_bitCount_0f7a4_40 : decode cJ6_bitCount_0f7a4 40 = .ok (.istore_n 0, 1) := by decide +kernel
theorem dJ6_bitCount_0f7a4_41 : decode cJ6_bitCount_0f7a4 41 = .ok (.iload_n 0, 1) := by decide +kernel
theorem dJ6_bitCount_0f7a4_42 : decode cJ6_bitCount_0f7a4 42 = .ok (.iload_n 0, 1) := by decide +kernel
theorem dJ6_bitCount_0f7a4_43 : decode cJ6_bitCount_0f7a4 43 = .ok (.bipush 16, 2) := by decide +kernel
theorem dJ6_bitCount_0f7a4_45 : decode cJ6_bitCount_0f7a4 45 = .ok (.iushr, 1) := by decide +kernel
theorem dJ6_bitCount_0f7a4_46 : decode cJ6_bitCount_0f7a4 46 = .ok (.iadd, 1) := by decide +kernel
theorem dJ6_bitCount_0f7a4_47 : decode cJ6_bitCount_0f7a4 47 = .ok (.istore_n 0, 1) := by decide +kernel
theorem dJ6_bitCount_0f7a4_48 : decode cJ6_bitCount_0f7a4 48 = .ok (.iload_n 0, 1) := by decide +kernel
theorem dJ6_bitCount_0f7a4_49 : decode cJ6_bitCount_0f7a4 49 = .ok (.bipush 63, 2) := by decide +kernel
theorem dJ6_bitCount_0f7a4_51 : decode cJ6_bitCount_0f7a4 51 = .ok (.iand, 1) := by decide +kernel
theorem dJ6_bitCount_0f7a4_52 : decode cJ6_bitCount_0f7a4 52 = .ok (.ireturn, 1) := by decide +kernel
theorem dJ9_max_7cf53_0 : decode cJ9_max_7cf53 0 = .ok (.iload_n 0, 1) := by decide +kernel
theorem dJ9_max_7cf53_1 : decode cJ9_max_7cf53 1 = .ok (.iload_n 1, 1) := by decide +kernel
theorem dJ9_max_7cf53_2 : decode cJ9_max_7cf53 2 = .ok (.if_icmp .lt 7, 3) := by decide +kernel
theorem dJ9_max_7cf53_5 : decode cJ9_max_7cf53 5 = .ok (.iload_n 0, 1) := by decide +kernel
theorem dJ9_max_7cf53_6 : decode cJ9_max_7cf53 6 = .ok (.goto 4, 3) := by decide +kernel
theorem dJ9_max_7cf53_9 : decode cJ9_max_7cf53 9 = .ok (.iload_n 1, 1) := by decide +kernel
theorem dJ9_max_7cf53_10 : decode cJ9_max_7cf53 10 = .ok (.ireturn, 1) := by decide +kernel
theorem dJ9_min_7cf53_0 : decode cJ9_min_7cf53 0 = .ok (.iload_n 0, 1) := by decide +kernel
theorem dJ9_min_7cf53_1 : decode cJ9_min_7cf53 1 = .ok (.iload_n 1, 1) := by decide +kernel
theorem dJ9_min_7cf53_2 : decode cJ9_min_7cf53 2 = .ok (.if_icmp .gt 7, 3) := by decide +kernel
theorem dJ9_min_7cf53_5 : decode cJ9_min_7cf53 5 = .ok (.iload_n 0, 1) := by decide +kernel
theorem dJ9_min_7cf53_6 : decode cJ9_min_7cf53 6 = .ok (.goto 4, 3) := by decide +kernel
theorem dJ9_min_7cf53_9 : decode cJ9_min_7cf53 9 = .ok (.iload_n 1, 1) := by decide +kernel
theorem dJ9_min_7cf53_10 : decode cJ9_min_7cf53 10 = .ok (.ireturn, 1) := by decide +kernel
theorem dJ0_length_8abf5_0 : decode cJ0_length_8abf5 0 = .ok (.aload_n 0, 1) := by decide +kernel
theorem dJ0_length_8abf5_1 : decode cJ0_length_8abf5 1 = .ok (.getfield 9, 3) := by decide +kernel
theorem dJ0_length_8abf5_4 : decode cJ0_length_8abf5 4 = .ok (.arraylength, 1) := by decide +kernel
theorem dJ0_length_8abf5_5 : decode cJ0_length_8abf5 5 = .ok (.aload_n 0, 1) := by decide +kernel
theorem dJ0_length_8abf5_6 : decode cJ0_length_8abf5 6 = .ok (.invokevirtual 335, 3) := by decide +kernel
theorem dJ0_length_8abf5_9 : decode cJ0_length_8abf5 9 = .ok (.ishr, 1) := by decide +kernel
theorem dJ0_length_8abf5_10 : decode cJ0_length_8abf5 10 = .ok (.ireturn, 1) := by decide +kernel
theorem dJ0_charAt_5068e_0 : decode cJ0_charAt_5068e 0 = .ok (.aload_n 0, 1) := by decide +kernel
theorem dJ0_charAt_5068e_1 : decode cJ0_charAt_5068e 1 = .ok (.invokevirtual 492, 3) := by decide +kernel
theorem dJ0_charAt_5068e_4 : decode cJ0_charAt_5068e 4 = .ok (.ifCond .eq 12, 3) := by decide +kernel
theorem dJ0_charAt_5068e_7 : decode cJ0_charAt_5068e 7 = .ok (.aload_n 0, 1) := by decide +kernel
theorem dJ0_charAt_5068e_8 : decode cJ0_charAt_5068e 8 = .ok (.getfield 9, 3) := by decide +kernel
theorem dJ0_charAt_5068e_11 : decode cJ0_charAt_5068e 11 = .ok (.iload_n 1, 1) := by decide +kernel
theorem dJ0_charAt_5068e_12 : decode cJ0_charAt_5068e 12 = .ok (.invokestatic 495, 3) := by decide +kernel
theorem dJ0_charAt_5068e_15 : decode cJ0_charAt_5068e 15 = .ok (.ireturn, 1) := by decide +kernel
theorem dJ0_charAt_5068e_16 : decode cJ0_charAt_5068e 16 = .ok (.aload_n 0, 1) := by decide +kernel
theorem dJ0_charAt_5068e_17 : decode cJ0_charAt_5068e 17 = .ok (.getfield 9, 3) := by decide +kernel
theorem dJ0_charAt_5068e_20 : decode cJ0_charAt_5068e 20 = .ok (.iload_n 1, 1) := by decide +kernel
theorem dJ0_charAt_5068e_21 : decode cJ0_charAt_5068e 21 = .ok (.invokestatic 498, 3) := by decide +kernel
theorem dJ0_charAt_5068e_24 : decode cJ0_charAt_5068e 24 = .ok (.ireturn, 1) := by decide +kernel
theorem dJ0_coder_7d493_0 : decode cJ0_coder_7d493 0 = .ok (.getstatic 38, 3) := by decide +kernel
theorem dJ0_coder_7d493_3 : decode cJ0_coder_7d493 3 = .ok (.ifCond .eq 10, 3) := by decide +kernel
theorem dJ0_coder_7d493_6 : decode cJ0_coder_7d493 6 = .ok (.aload_n 0, 1) := by decide +kernel
theorem dJ0_coder_7d493_7 : decode cJ0_coder_7d493 7 = .ok (.getfield 15, 3) := by decide +kernel
theorem dJ0_coder_7d493_10 : decode cJ0_coder_7d493 10 = .ok (.goto 4, 3) := by decide +kernel
theorem dJ0_coder_7d493_13 : decode cJ0_coder_7d493 13 = .ok (.iconst 1, 1) := by decide +kernel
theorem dJ0_coder_7d493_14 : decode cJ0_coder_7d493 14 = .ok (.ireturn, 1) := by decide +kernel
theorem dJ0_isLatin1_aae02_0 : decode cJ0_isLatin1_aae02 0 = .ok (.getstatic 38, 3) := by decide +kernel
theorem dJ0_isLatin1_aae02_3 : decode cJ0_isLatin1_aae02 3 = .ok (.ifCond .eq 14, 3) := by decide +kernel
theorem dJ0_isLatin1_aae02_6 : decode cJ0_isLatin1_aae02 6 = .ok (.aload_n 0, 1) := by decide +kernel
theorem dJ0_isLatin1_aae02_7 : decode cJ0_isLatin1_aae02 7 = .ok (.getfield 15, 3) := by decide +kernel
theorem dJ0_isLatin1_aae02_10 : decode cJ0_isLatin1_aae02 10 = .ok (.ifCond .ne 7, 3) := by decide +kernel
theorem dJ0_isLatin1_aae02_13 : decode cJ0_isLatin1_aae02 13 = .ok (.iconst 1, 1) := by decide +kernel
theorem dJ0_isLatin1_aae02_14 : decode cJ0_isLatin1_aae02 14 = .ok (.goto 4, 3) := by decide +kernel
theorem dJ0_isLatin1_aae02_17 : decode cJ0_isLatin1_aae02 17 = .ok (.iconst 0, 1) := by decide +kernel
theorem dJ0_isLatin1_aae02_18 : decode cJ0_isLatin1_aae02 18 = .ok (.ireturn, 1) := by decide +kernel
theorem dJ0_checkIndex_df160_0 : decode cJ0_checkIndex_df160 0 = .ok (.iload_n 0, 1) := by decide +kernel
theorem dJ0_checkIndex_df160_1 : decode cJ0_checkIndex_df160 1 = .ok (.iload_n 1, 1) := by decide +kernel
theorem dJ0_checkIndex_df160_2 : decode cJ0_checkIndex_df160 2 = .ok (.getstatic 1053, 3) := by decide +kernel
theorem dJ0_checkIndex_df160_5 : decode cJ0_checkIndex_df160 5 = .ok (.invokestatic 1059, 3) := by decide +kernel
theorem dJ0_checkIndex_df160_8 : decode cJ0_checkIndex_df160 8 = .ok (.pop, 1) := by decide +kernel
theorem dJ0_checkIndex_df160_9 : decode cJ0_checkIndex_df160 9 = .ok (.return_, 1) := by decide +kernel
theorem dJ1_charAt_3b067_0 : decode cJ1_charAt_3b067 0 = .ok (.iload_n 1, 1) := by decide +kernel
theorem dJ1_charAt_3b067_1 : decode cJ1_charAt_3b067 1 = .ok (.aload_n 0, 1) := by decide +kernel
theorem dJ1_charAt_3b067_2 : decode cJ1_charAt_3b067 2 = .ok (.arraylength, 1) := by decide +kernel
theorem dJ1_charAt_3b067_3 : decode cJ1_charAt_3b067 3 = .ok (.invokestatic 9, 3) := by decide +kernel
theorem dJ1_charAt_3b067_6 : decode cJ1_charAt_3b067 6 = .ok (.aload_n 0, 1) := by decide +kernel
theorem dJ1_charAt_3b067_7 : decode cJ1_charAt_3b067 7 = .ok (.iload_n 1, 1) := by decide +kernel
theorem dJ1_charAt_3b067_8 : decode cJ1_charAt_3b067 8 = .ok (.baload, 1) := by decide +kernel
theorem dJ1_charAt_3b067_9 : decode cJ1_charAt_3b067 9 = .ok (.sipush 255, 3) := by decide +kernel
theorem dJ1_charAt_3b067_12 : decode cJ1_charAt_3b067 12 = .ok (.iand, 1) := by decide +kernel
theorem dJ1_charAt_3b067_13 : decode cJ1_charAt_3b067 13 = .ok (.i2c, 1) := by decide +kernel
theorem dJ1_charAt_3b067_14 : decode cJ1_charAt_3b067 14 = .ok (.ireturn, 1) := by decide +kernel
theorem dJ2_getChar_3b067_0 : decode cJ2_getChar_3b067 0 = .ok (.getstatic 44, 3) := by decide +kernel
theorem dJ2_getChar_3b067_3 : decode cJ2_getChar_3b067 3 = .ok (.ifCond .ne 25, 3) := by decide +kernel
theorem dJ2_getChar_3b067_6 : decode cJ2_getChar_3b067 6 = .ok (.iload_n 1, 1) := by decide +kernel
theorem dJ2_getChar_3b067_7 : decode cJ2_getChar_3b067 7 = .ok (.ifCond .lt 11, 3) := by decide +kernel
theorem dJ2_getChar_3b067_10 : decode cJ2_getChar_3b067 10 = .ok (.iload_n 1, 1) := by decide +kernel
theorem dJ2_getChar_3b067_11 : decode cJ2_getChar_3b067 11 = .ok (.aload_n 0, 1) := by decide +kernel
theorem dJ2_getChar_3b067_12 : decode cJ2_getChar_3b067 12 = .ok (.invokestatic 48, 3) := by decide +kernel
theorem dJ2_getChar_3b067_15 : decode cJ2_getChar_3b067 15 = .ok (.if_icmp .lt 13, 3) := by decide +kernel
theorem dJ2_getChar_3b067_18 : decode cJ2_getChar_3b067 18 = .ok (.new 52, 3) := by decide +kernel
theorem dJ2_getChar_3b067_21 : decode cJ2_getChar_3b067 21 = .ok (.dup, 1) := by decide +kernel
theorem dJ2_getChar_3b067_22 : decode cJ2_getChar_3b067 22 = .ok (.ldc 54, 2) := by decide +kernel
theorem dJ2_getChar_3b067_24 : decode cJ2_getChar_3b067 24 = .ok (.invokespecial 56, 3) := by decide +kernel
theorem dJ2_getChar_3b067_27 : decode cJ2_getChar_3b067 27 = .ok (.athrow, 1) := by decide +kernel
theorem dJ2_getChar_3b067_28 : decode cJ2_getChar_3b067 28 = .ok (.iload_n 1, 1) := by decide +kernel
theorem dJ2_getChar_3b067_29 : decode cJ2_getChar_3b067 29 = .ok (.iconst 1, 1) := by decide +kernel
theorem dJ2_getChar_3b067_30 : decode cJ2_getChar_3b067 30 = .ok (.ishl, 1) := by decide +kernel
theorem dJ2_getChar_3b067_31 : decode cJ2_getChar_3b067 31 = .ok (.istore_n 1, 1) := by decide +kernel
theorem dJ2_getChar_3b067_32 : decode cJ2_getChar_3b067 32 = .ok (.aload_n 0, 1) := by decide +kernel
theorem dJ2_getChar_3b067_33 : decode cJ2_getChar_3b067 33 = .ok (.iload_n 1, 1) := by decide +kernel
theorem dJ2_getChar_3b067_34 : decode cJ2_getChar_3b067 34 = .ok (.iinc 1 1, 3) := by decide +kernel
theorem dJ2_getChar_3b067_37 : decode cJ2_getChar_3b067 37 = .ok (.baload, 1) := by decide +kernel
theorem dJ2_getChar_3b067_38 : decode cJ2_getChar_3b067 38 = .ok (.sipush 255, 3) := by decide +kernel
theorem dJ2_getChar_3b067_41 : decode cJ2_getChar_3b067 41 = .ok (.iand, 1) := by decide +kernel
theorem dJ2_getChar_3b067_42 : decode cJ2_getChar_3b067 42 = .ok (.getstatic 59, 3) := by decide +kernel
theorem dJ2_getChar_3b067_45 : decode cJ2_getChar_3b067 45 = .ok (.ishl, 1) := by decide +kernel
theorem dJ2_getChar_3b067_46 : decode cJ2_getChar_3b067 46 = .ok (.aload_n 0, 1) := by decide +kernel
theorem dJ2_getChar_3b067_47 : decode cJ2_getChar_3b067 47 = .ok (.iload_n 1, 1) := by decide +kernel
theorem dJ2_getChar_3b067_48 : decode cJ2_getChar_3b067 48 = .ok (.baload, 1) := by decide +kernel
theorem dJ2_getChar_3b067_49 : decode cJ2_getChar_3b067 49 = .ok (.sipush 255, 3) := by decide +kernel
theorem dJ2_getChar_3b067_52 : decode cJ2_getChar_3b067 52 = .ok (.iand, 1) := by decide +kernel
theorem dJ2_getChar_3b067_53 : decode cJ2_getChar_3b067 53 = .ok (.getstatic 63, 3) := by decide +kernel
theorem dJ2_getChar_3b067_56 : decode cJ2_getChar_3b067 56 = .ok (.ishl, 1) := by decide +kernel
theorem dJ2_getChar_3b067_57 : decode cJ2_getChar_3b067 57 = .ok (.ior, 1) := by decide +kernel
theorem dJ2_getChar_3b067_58 : decode cJ2_getChar_3b067 58 = .ok (.i2c, 1) := by decide +kernel
theorem dJ2_getChar_3b067_59 : decode cJ2_getChar_3b067 59 = .ok (.ireturn, 1) := by decide +kernel
theorem dJ2_length_9d52b_0 : decode cJ2_length_9d52b 0 = .ok (.aload_n 0, 1) := by decide +kernel
theorem dJ2_length_9d52b_1 : decode cJ2_length_9d52b 1 = .ok (.arraylength, 1) := by decide +kernel
theorem dJ2_length_9d52b_2 : decode cJ2_length_9d52b 2 = .ok (.iconst 1, 1) := by decide +kernel
theorem dJ2_length_9d52b_3 : decode cJ2_length_9d52b 3 = .ok (.ishr, 1) := by decide +kernel
theorem dJ2_length_9d52b_4 : decode cJ2_length_9d52b 4 = .ok (.ireturn, 1) := by decide +kernel
theorem dJ2_charAt_3b067_0 : decode cJ2_charAt_3b067 0 = .ok (.iload_n 1, 1) := by decide +kernel
theorem dJ2_charAt_3b067_1 : decode cJ2_charAt_3b067 1 = .ok (.aload_n 0, 1) := by decide +kernel
theorem dJ2_charAt_3b067_2 : decode cJ2_charAt_3b067 2 = .ok (.invokestatic 67, 3) := by decide +kernel
theorem dJ2_charAt_3b067_5 : decode cJ2_charAt_3b067 5 = .ok (.aload_n 0, 1) := by decide +kernel
theorem dJ2_charAt_3b067_6 : decode cJ2_charAt_3b067 6 = .ok (.iload_n 1, 1) := by decide +kernel
theorem dJ2_charAt_3b067_7 : decode cJ2_charAt_3b067 7 = .ok (.invokestatic 71, 3) := by decide +kernel
theorem dJ2_charAt_3b067_10 : decode cJ2_charAt_3b067 10 = .ok (.ireturn, 1) := by decide +kernel
theorem dJ2_checkIndex_2214a_0 : decode cJ2_checkIndex_2214a 0 = .ok (.iload_n 0, 1) := by decide +kernel
theorem dJ2_checkIndex_2214a_1 : decode cJ2_checkIndex_2214a 1 = .ok (.aload_n 1, 1) := by decide +kernel
theorem dJ2_checkIndex_2214a_2 : decode cJ2_checkIndex_2214a 2 = .ok (.invokestatic 48, 3) := by decide +kernel
theorem dJ2_checkIndex_2214a_5 : decode cJ2_checkIndex_2214a 5 = .ok (.invokestatic 414, 3) := by decide +kernel
theorem dJ2_checkIndex_2214a_8 : decode cJ2_checkIndex_2214a 8 = .ok (.return_, 1) := by decide +kernel
theorem dJ3_checkIndex_8e157_0 : decode cJ3_checkIndex_8e157 0 = .ok (.iload_n 0, 1) := by decide +kernel
theorem dJ3_checkIndex_8e157_1 : decode cJ3_checkIndex_8e157 1 = .ok (.ifCond .lt 8, 3) := by decide +kernel
theorem dJ3_checkIndex_8e157_4 : decode cJ3_checkIndex_8e157 4 = .ok (.iload_n 0, 1) := by decide +kernel
theorem dJ3_checkIndex_8e157_5 : decode cJ3_checkIndex_8e157 5 = .ok (.iload_n 1, 1) := by decide +kernel
theorem dJ3_checkIndex_8e157_6 : decode cJ3_checkIndex_8e157 6 = .ok (.if_icmp .lt 10, 3) := by decide +kernel
theorem dJ3_checkIndex_8e157_9 : decode cJ3_checkIndex_8e157 9 = .ok (.aload_n 2, 1) := by decide +kernel
theorem dJ3_checkIndex_8e157_10 : decode cJ3_checkIndex_8e157 10 = .ok (.iload_n 0, 1) := by decide +kernel
theorem dJ3_checkIndex_8e157_11 : decode cJ3_checkIndex_8e157 11 = .ok (.iload_n 1, 1) := by decide +kernel
theorem dJ3_checkIndex_8e157_12 : decode cJ3_checkIndex_8e157 12 = .ok (.invokestatic 95, 3) := by decide +kernel
theorem dJ3_checkIndex_8e157_15 : decode cJ3_checkIndex_8e157 15 = .ok (.athrow, 1) := by decide +kernel
theorem dJ3_checkIndex_8e157_16 : decode cJ3_checkIndex_8e157 16 = .ok (.iload_n 0, 1) := by decide +kernel
theorem dJ3_checkIndex_8e157_17 : decode cJ3_checkIndex_8e157 17 = .ok (.ireturn, 1) := by decide +kernel
end
section
/-! THE STATE, in my words: h g k is the int in place k of group g.
Groups of the class: 0 imageKept; 1, 2, 3 the rows of inn, kept, trial (98 places: 0 day, 1 z, 2 dishes, 3 guests, 4 list, 10 dishes' facts, 58 guests' facts, 88 spots); 4 the tape (0 length, 1 token, 2 start, 3 behind, 4 value, 10 bytes); 5 findings; 6 sheets (0 bits, 4 lengths, 8 numbers).
Groups of the reference: 10 isKept; 11, 12, 13 its rows m, kept, was; 14 its tape (0 taped, 1 token, 2 begin, 3 at, 4 value, 5 bad, 10 bytes); 15 found; 16 sheets. -/
abbrev Hp : Type := Nat → Nat → Int32
def up (h : Hp) (g k : Nat) (v : Int32) : Hp := fun a => if a = g then upd (h a) k v else h a
/-- of a cell's field: a reference to a cell, or the int in a place of a group -/
abbrev Zf : Type := Nat ⊕ (Nat × Nat)
/-- a cell: an object (number of its class, fields) or an array (kind 0 int, 1 byte, 2 sheets; length; group; its first place there) -/
abbrev Zs : Type := (Nat × List Zf) ⊕ (Nat × Nat × Nat × Nat)
def shp : List Zs := [
  .inl (3, [.inl 1, .inl 6, .inl 11, .inl 16, .inl 18, .inl 27, .inr (0, 0)]),
  .inl (0, [.inl 2, .inl 3, .inl 4, .inl 5, .inr (1, 2), .inr (1, 3), .inr (1, 0), .inr (1, 1)]), .inr (0, 6, 1, 4), .inr (0, 48, 1, 10), .inr (0, 30, 1, 58), .inr (0, 10, 1, 88),
  .inl (0, [.inl 7, .inl 8, .inl 9, .inl 10, .inr (2, 2), .inr (2, 3), .inr (2, 0), .inr (2, 1)]), .inr (0, 6, 2, 4), .inr (0, 48, 2, 10), .inr (0, 30, 2, 58), .inr (0, 10, 2, 88),
  .inl (0, [.inl 12, .inl 13, .inl 14, .inl 15, .inr (3, 2), .inr (3, 3), .inr (3, 0), .inr (3, 1)]), .inr (0, 6, 3, 4), .inr (0, 48, 3, 10), .inr (0, 30, 3, 58), .inr (0, 10, 3, 88),
  .inl (2, [.inl 17, .inr (4, 0), .inr (4, 1), .inr (4, 2), .inr (4, 3), .inr (4, 4)]), .inr (1, 120, 4, 10),
  .inr (2, 4, 0, 100),
  .inl (1, [.inl 20, .inr (6, 0), .inr (6, 4)]), .inr (0, 40, 6, 8),
  .inl (1, [.inl 22, .inr (6, 1), .inr (6, 5)]), .inr (0, 40, 6, 48),
  .inl (1, [.inl 24, .inr (6, 2), .inr (6, 6)]), .inr (0, 40, 6, 88),
  .inl (1, [.inl 26, .inr (6, 3), .inr (6, 7)]), .inr (0, 40, 6, 128),
  .inr (0, 7, 5, 0),
  .inl (4, [.inl 29, .inl 30, .inl 31, .inr (10, 0), .inl 32, .inl 33, .inl 34, .inl 35, .inl 36, .inr (14, 0), .inr (14, 1), .inr (14, 2), .inr (14, 3), .inr (14, 4), .inr (14, 5)]),
  .inr (0, 98, 11, 0), .inr (0, 98, 12, 0), .inr (0, 98, 13, 0), .inr (0, 7, 15, 0), .inr (0, 4, 16, 0), .inr (0, 4, 16, 4), .inr (0, 160, 16, 8), .inr (0, 120, 14, 10)]
/-- which places a cell holds: group, first, how many -/
def occF : List Zf → List (Nat × Nat × Nat)
  | [] => []
  | .inl _ :: r => occF r
  | .inr (g, k) :: r => (g, k, 1) :: occF r
def occ : Zs → List (Nat × Nat × Nat)
  | .inl (_, fs) => occF fs
  | .inr (t, n, g, o) => if t = 2 then [] else [(g, o, n)]
def inP (L : List (Nat × Nat × Nat)) (g k : Nat) : Prop := ∃ q ∈ L, q.1 = g ∧ q.2.1 ≤ k ∧ k < q.2.1 + q.2.2
def djB (L M : List (Nat × Nat × Nat)) : Bool := L.all fun a => M.all fun b => !(a.1 == b.1) || Nat.ble (a.2.1 + a.2.2) b.2.1 || Nat.ble (b.2.1 + b.2.2) a.2.1
theorem djB_ok {L M : List (Nat × Nat × Nat)} (h : djB L M = true) {g k : Nat} (h1 : inP L g k) : ¬ inP M g k := by
  rintro ⟨b, hb, b1, b2, b3⟩
  obtain ⟨a, ha, a1, a2, a3⟩ := h1
  have h2 := List.all_eq_true.mp (List.all_eq_true.mp h a ha) b hb
  simp only [Bool.or_eq_true, Bool.not_eq_true', beq_eq_false_iff_ne, ne_eq, Nat.ble_eq] at h2
  omega
def shpDj : Bool := (List.range 37).all fun i => (List.range 37).all fun j => i == j || djB (occ (shp.getD i (.inl (0, [])))) (occ (shp.getD j (.inl (0, []))))
theorem shpDj_ok : shpDj = true := by decide +kernel
theorem shp_lt {i : Nat} {s : Zs} (h : shp[i]? = some s) : i < 37 := by
  have h1 := (List.getElem?_eq_some_iff.mp h).1
  have h2 : shp.length = 37 := by decide +kernel
  omega
theorem shp_apart {i j : Nat} {s t : Zs} (hi : shp[i]? = some s) (hj : shp[j]? = some t) (hn : i ≠ j) {g k : Nat} (h : inP (occ s) g k) : ¬ inP (occ t) g k := by
  have h1 := List.all_eq_true.mp (List.all_eq_true.mp shpDj_ok i (List.mem_range.mpr (shp_lt hi))) j (List.mem_range.mpr (shp_lt hj))
  rw [Bool.or_eq_true] at h1
  rcases h1 with h1 | h1
  · exact absurd (beq_iff_eq.mp h1) hn
  · have e1 : shp.getD i (.inl (0, [])) = s := by rw [List.getD_eq_getElem?_getD, hi]; rfl
    have e2 : shp.getD j (.inl (0, [])) = t := by rw [List.getD_eq_getElem?_getD, hj]; rfl
    rw [e1, e2] at h1
    exact djB_ok h1 h
def cv (ad : Nat → Nat) : Value → Value
  | .ref i => .ref (ad i)
  | v => v
def fV (ad : Nat → Nat) (h : Hp) : Zf → Value
  | .inl j => .ref (ad j)
  | .inr (g, k) => .int (h g k)
def cE (ad : Nat → Nat) (ca : Nat → ClassId) (h : Hp) : Zs → va_E
  | .inl (ci, fs) => .inr (ci, fs.map (fV ad h))
  | .inr (t, n, g, o) => if t = 2 then .inl (ca t, n, .inr (.inr (.inr (.inr (fun j => some (ad (19 + 2 * j))))))) else .inl (ca t, n, .inl (fun j => h g (o + j)))
def wl (ad : Nat → Nat) (ca : Nat → ClassId) (h : Hp) : va_W := shp.mapIdx fun i s => (ad i, cE ad ca h s)
theorem wl_at {ad : Nat → Nat} {ca : Nat → ClassId} {h : Hp} {i : Nat} {s : Zs} (hi : shp[i]? = some s) : (wl ad ca h)[i]? = some (ad i, cE ad ca h s) := by
  unfold wl
  rw [List.getElem?_mapIdx, hi]
  rfl
theorem wl_of {ad : Nat → Nat} {ca : Nat → ClassId} {h : Hp} {i : Nat} {q : Nat × va_E} (hi : (wl ad ca h)[i]? = some q) : ∃ s, shp[i]? = some s ∧ q = (ad i, cE ad ca h s) := by
  unfold wl at hi
  rw [List.getElem?_mapIdx] at hi
  cases hs : shp[i]? with
  | none => rw [hs] at hi; cases hi
  | some s => rw [hs] at hi; exact ⟨s, rfl, (Option.some.inj hi).symm⟩
/-- two states agree on a cell -/
def agr (s : Zs) (h1 h2 : Hp) : Prop := ∀ g k, inP (occ s) g k → h1 g k = h2 g k
theorem fV_agr {ad : Nat → Nat} {h1 h2 : Hp} : ∀ (fs : List Zf), (∀ g k, inP (occF fs) g k → h1 g k = h2 g k) → fs.map (fV ad h1) = fs.map (fV ad h2)
  | [], _ => rfl
  | .inl j :: r, h => by
    rw [List.map_cons, List.map_cons, fV_agr r (fun g k q => h g k q)]
    rfl
  | .inr (g, k) :: r, h => by
    have e1 : h1 g k = h2 g k := h g k ⟨(g, k, 1), List.mem_cons_self, rfl, Nat.le_refl _, Nat.lt_succ_self _⟩
    rw [List.map_cons, List.map_cons, fV_agr r (fun g' k' ⟨q, a, b⟩ => h g' k' ⟨q, List.mem_cons_of_mem _ a, b⟩)]
    show Value.int (h1 g k) :: _ = Value.int (h2 g k) :: _
    rw [e1]
theorem arrV_ext (cI : ClassId) {N : Nat} {f g : Nat → Value} (h : ∀ j, j < N → f j = g j) : arrV cI N f = arrV cI N g := by
  unfold arrV
  congr 1
  apply Array.ext
  · simp
  · intro i h1 h2
    have h3 : i < N := by simpa using h1
    simp [h i h3]
theorem at_agr {D : va_G} {ad : Nat → Nat} {ca : Nat → ClassId} {a : Nat} {H : Heap} {h1 h2 : Hp} {s : Zs} (hg : agr s h1 h2) (hv : va_at D vwCl (a, cE ad ca h1 s) H) : va_at D vwCl (a, cE ad ca h2 s) H := by
  match s, hg, hv with
  | .inl (ci, fs), hg, hv =>
    have e : cE ad ca h1 (.inl (ci, fs)) = cE ad ca h2 (.inl (ci, fs)) := by
      show (Sum.inr (ci, fs.map (fV ad h1)) : va_E) = Sum.inr (ci, fs.map (fV ad h2))
      rw [fV_agr fs hg]
    rw [← e]; exact hv
  | .inr (t, n, g, o), hg, hv =>
    by_cases ht : t = 2
    · have e : cE ad ca h1 (.inr (t, n, g, o)) = cE ad ca h2 (.inr (t, n, g, o)) := by simp [cE, ht]
      rw [← e]; exact hv
    · have e1 : ∀ h : Hp, cE ad ca h (.inr (t, n, g, o)) = .inl (ca t, n, .inl (fun j => h g (o + j))) := fun h => by simp [cE, ht]
      rw [e1] at hv ⊢
      show H[a]? = some (vp_cell (ca t) (n, .inl (fun j => h2 g (o + j))))
      rw [vp_cell_i, ← arrV_ext (ca t) (f := fun j => .int (h1 g (o + j))) (fun j hj => by
        show Value.int _ = Value.int _
        rw [hg g (o + j) ⟨(g, o, n), by simp [occ, ht], rfl, Nat.le_add_right _ _, Nat.add_lt_add_left hj _⟩])]
      exact hv
def WP (D : va_G) (ad : Nat → Nat) (ca : Nat → ClassId) (h : Hp) (H : Heap) : Prop := va_P D vwCl (wl ad ca h) H
theorem WP.of {D : va_G} {ad : Nat → Nat} {ca : Nat → ClassId} {h : Hp} {H : Heap} (k : ∀ i s, shp[i]? = some s → va_at D vwCl (ad i, cE ad ca h s) H) : WP D ad ca h H := by
  intro i q hq
  obtain ⟨s, h1, rfl⟩ := wl_of hq
  exact k i s h1
theorem WP.at {D : va_G} {ad : Nat → Nat} {ca : Nat → ClassId} {h : Hp} {H : Heap} (w : WP D ad ca h H) {i : Nat} {s : Zs} (hi : shp[i]? = some s) : va_at D vwCl (ad i, cE ad ca h s) H := w i _ (wl_at hi)
/-- states that agree on every cell -/
def heq (h1 h2 : Hp) : Prop := ∀ (i : Nat) (s : Zs), shp[i]? = some s → agr s h1 h2
theorem WP.heq {D : va_G} {ad : Nat → Nat} {ca : Nat → ClassId} {h1 h2 : Hp} {H : Heap} (e : heq h1 h2) (w : WP D ad ca h1 H) : WP D ad ca h2 H := WP.of fun i s hi => at_agr (e i s hi) (w.at hi)
theorem up_s (h : Hp) (g k : Nat) (v : Int32) : up h g k v g k = v := by simp [up, upd]
theorem up_n (h : Hp) {g k a b : Nat} (v : Int32) (n : ¬ (a = g ∧ b = k)) : up h g k v a b = h a b := by
  unfold up
  by_cases e : a = g
  · rw [if_pos e]
    unfold upd
    exact if_neg (fun e2 => n ⟨e, e2⟩)
  · rw [if_neg e]
/-- one cell was written: the world of the new state -/
theorem WP.upd {D : va_G} {ad : Nat → Nat} {ca : Nat → ClassId} {h : Hp} {H1 : Heap} {i : Nat} {s : Zs} {e : va_E} {h' : Hp} (hi : shp[i]? = some s) (w : va_P D vwCl ((wl ad ca h).set i (ad i, e)) H1) (hs : va_at D vwCl (ad i, e) H1 → va_at D vwCl (ad i, cE ad ca h' s) H1) (ho : ∀ g k, ¬ inP (occ s) g k → h' g k = h g k) : WP D ad ca h' H1 := by
  apply WP.of
  intro j t hj
  by_cases hij : i = j
  · subst hij
    have e1 : s = t := Option.some.inj (hi.symm.trans hj)
    subst e1
    refine hs (w i _ ?_)
    have hl : i < (wl ad ca h).length := (List.getElem?_eq_some_iff.mp (wl_at (ad := ad) (ca := ca) (h := h) hi)).1
    rw [List.getElem?_set_self hl]
  · have h1 : ((wl ad ca h).set i (ad i, e))[j]? = some (ad j, cE ad ca h t) := by
      rw [List.getElem?_set_ne hij]
      exact wl_at hj
    refine at_agr (h1 := h) (fun g k q => ?_) (w j _ h1)
    exact (ho g k (shp_apart hj hi (Ne.symm hij) q)).symm
def apD (A : Nat → Prop) (ad : Nat → Nat) : Prop := (∀ i j, i < 37 → j < 37 → ad i = ad j → i = j) ∧ ∀ i, i < 37 → A (ad i)
theorem apD.D {A : Nat → Prop} {ad : Nat → Nat} (a : apD A ad) (ca : Nat → ClassId) (h : Hp) : va_D A (wl ad ca h) := by
  refine ⟨fun i j p q hp hq e => ?_, fun i q hq => ?_⟩
  · obtain ⟨s, h1, rfl⟩ := wl_of hp
    obtain ⟨t, h2, rfl⟩ := wl_of hq
    exact a.1 i j (shp_lt h1) (shp_lt h2) e
  · obtain ⟨s, h1, rfl⟩ := wl_of hq
    exact a.2 i (shp_lt h1)
/-! what is only read: static arrays, the script, texts -/
abbrev kndAbove : List Int32 := [-1, 0, 0, 2, 3, 0, 1]
abbrev dshTops : List Int32 := [6, 11, 11, 99, 9999, 1]
abbrev gstTops : List Int32 := [99, 11, 99999, 4095, 9999]
abbrev nmes : List Int32 := [100, 105, 115, 104, 0, 0, 0, 112, 105, 101, 0, 0, 0, 0, 114, 111, 97, 115, 116, 0, 0, 106, 111, 105, 110, 116, 0, 0, 116, 114, 105, 102, 108, 101, 0, 109, 117, 116, 116, 111, 110, 0, 112, 101, 97, 115, 0, 0, 0, 112, 114, 105, 99, 101, 0, 0, 115, 101, 114, 118, 101, 100, 0, 111, 102, 102, 0, 0, 0, 0, 103, 117, 101, 115, 116, 0, 0, 102, 111, 114, 0, 0, 0, 0, 109, 101, 97, 108, 0, 0, 0]
def sArr (C n : String) (l : List Int32) (t : Nat) (A : Nat → Prop) (U : State) (H : Heap) : Prop := va_Z C n "[I" (.ref t) A U H ∧ va_T .int t l.length (fun j => .int (l.getD j 0)) A U H
/-- the texts, in order: text, its place in the pool -/
abbrev txs : List (String × Nat) := [("guest", 33), ("for", 84), ("meal", 42), ("pie", 107), ("roast", 109), ("joint", 111), ("trifle", 113), ("mutton", 115), ("peas", 117), ("dish", 119), ("price", 64), ("served", 69), ("off", 79)]
abbrev txLen : List Nat := [5, 3, 4, 3, 5, 5, 6, 6, 4, 4, 5, 6, 3]
abbrev txByt : List (List Int32) := [[103, 117, 101, 115, 116], [102, 111, 114], [109, 101, 97, 108], [112, 105, 101], [114, 111, 97, 115, 116], [106, 111, 105, 110, 116], [116, 114, 105, 102, 108, 101], [109, 117, 116, 116, 111, 110], [112, 101, 97, 115], [100, 105, 115, 104], [112, 114, 105, 99, 101], [115, 101, 114, 118, 101, 100], [111, 102, 102]]
abbrev Sc : Type := (Nat → Int32) × Nat
def Ro (X : Sc) (ad : Nat → Nat) (A : Nat → Prop) (U : State) (H : Heap) : Prop :=
  sArr "ForkInn$Inn" "KIND_ABOVE" kndAbove (ad 100) A U H ∧ sArr "ForkInn$Inn" "DISH_TOPS" dshTops (ad 101) A U H ∧ sArr "ForkInn$Inn" "GUEST_TOPS" gstTops (ad 102) A U H ∧ sArr "ForkInnModel" "NAMES" nmes (ad 103) A U H ∧
  (va_X (ad 104) X.2 X.1 U H ∧ ad 104 < H.size ∧ ¬ A (ad 104)) ∧
  (∀ i, i < 13 → vk_R "ForkInn$Tape" (txs.getD i ("", 0)).2 (txs.getD i ("", 0)).1 (ad (110 + i)) U) ∧ vk_S 13 txLen txByt (fun i => ad (110 + i)) (fun i => ad (130 + i)) A U H ∧
  va_Z "java/lang/String" "COMPACT_STRINGS" "Z" (.int 1) A U H ∧ va_Zq "jdk/internal/util/Preconditions" "SIOOBE_FORMATTER" "Ljava/util/function/BiFunction;" A U H
theorem sArr.go {C n : String} {l : List Int32} {t : Nat} {A : Nat → Prop} {s U : State} {H H1 : Heap} (hvm : s.vm.Alike U.vm) (hk : ∀ a : Nat, a < H.size → ¬ A a → H1[a]? = H[a]?) (h : sArr C n l t A s H) : sArr C n l t A U H1 := ⟨(h.1.moved hvm).kept hk, (h.2.moved hvm).kept hk⟩
theorem Ro.go {X : Sc} {ad : Nat → Nat} {A : Nat → Prop} {s U : State} {H : Heap} {locs : List Loc} (h : Ro X ad A s s.heap) (hS : va_S A s.heap H locs) (hW : s.WarmedH U.vm) (hU : U.heap = H) : Ro X ad A U U.heap := by
  rw [hU]
  have hv := hW.alike
  have hk := hS.2.1
  obtain ⟨a1, a2, a3, a4, ⟨x1, x2, x3⟩, t1, t2, z1, z2⟩ := h
  refine ⟨a1.go hv hk, a2.go hv hk, a3.go hv hk, a4.go hv hk, ⟨(x1.moved hv).kept (hk _ x2 x3), Nat.lt_of_lt_of_le x2 hS.1, x3⟩, fun i hi => (t1 i hi).warm hW, (t2.moved hv).kept hk, (z1.moved hv).kept hk, ?_⟩
  rcases z2 with z | ⟨t, z⟩
  · exact Or.inl ((z.moved hv).kept hk)
  · exact Or.inr ⟨t, (z.moved hv).kept hk⟩
theorem Ro.call {X : Sc} {ad : Nat → Nat} {A : Nat → Prop} {U : State} (g : JFrame) (mk : MethodId) (a : Array Value) (h : Ro X ad A U U.heap) : Ro X ad A (U.calling g mk a) (U.calling g mk a).heap := by
  have hv : U.vm.Alike (U.calling g mk a).vm := Vm.Alike.refl U.vm
  have hk : ∀ q : Nat, q < U.heap.size → ¬ A q → (U.calling g mk a).heap[q]? = U.heap[q]? := fun _ _ _ => rfl
  obtain ⟨a1, a2, a3, a4, ⟨x1, x2, x3⟩, t1, t2, z1, z2⟩ := h
  refine ⟨a1.go hv hk, a2.go hv hk, a3.go hv hk, a4.go hv hk, ⟨(x1.moved hv).kept rfl, x2, x3⟩, fun i hi => (t1 i hi).same rfl, (t2.moved hv).kept hk, (z1.moved hv).kept hk, ?_⟩
  rcases z2 with z | ⟨t, z⟩
  · exact Or.inl ((z.moved hv).kept hk)
  · exact Or.inr ⟨t, (z.moved hv).kept hk⟩
end
section
/-! THE WALK, in my words -/
def nul : Value → Bool
  | .null => true
  | _ => false
/-- the locals hold lv, place by place (null: nothing is said of it) -/
def LVS (ad : Nat → Nat) (ls : Array Slot) (nL : Nat) (lv : List Value) : Prop := ls.size = nL ∧ lv_wf ls ∧ ∀ (i : Nat) (v : Value), lv[i]? = some v → nul v = false → ls[i]? = some (.val (cv ad v))
def tysOf (ca : Nat → ClassId) : List (ClassId × FieldType) := [(ca 0, .int), (ca 1, .byte), (ca 2, .object "ForkInn$Sheet")]
/-- the good words of the tables -/
def gT : List Cond := lw_tbl.filter goodWord
def Cx (X : Sc) (ad : Nat → Nat) (D : va_G) (ca : Nat → ClassId) (A : Nat → Prop) (p : Program) (R : Room) (s : State) (m : MethodId) (args : Array Value) (c : Code) (cells slots : Nat) (own : String) (cc : ByteArray) (nL d : Nat) : Prop :=
  p.tables.exec = Jvm.exec ∧ c.code = cc ∧ c.maxLocals = nL ∧ s.vm.findClass own = some m.cls ∧ (∀ w ∈ gT, w.before args s = true) ∧ va_K D vwCl (tysOf ca) s ∧ Ro X ad A s s.heap ∧ apD A ad ∧ (∀ q : Nat, s.heap.size ≤ q → A q) ∧ (d ≤ R.frames ∧ 60 * d ≤ R.locals) ∧ cells ≤ R.cells ∧ slots ≤ R.slots
def Wd (D : va_G) (ad : Nat → Nat) (ca : Nat → ClassId) (h : Hp) (A : Nat → Prop) (H0 H : Heap) (locs : List Loc) : Prop := WP D ad ca h H ∧ va_S A H0 H locs
def retI : Option Value → Instr
  | none => .return_
  | some (.long _) => .lreturn
  | some (.ref _) => .areturn
  | _ => .ireturn
/-- from here the method returns r, with the state h' -/
def Go (X : Sc) (own : String) (cc : ByteArray) (nL d pc : Nat) (lv st : List Value) (h : Hp) (r : Option Value) (h' : Hp) : Prop :=
  ∀ (ad : Nat → Nat) (D : va_G) (ca : Nat → ClassId) (A : Nat → Prop) (p : Program) (l : Launch) (e : Env) (R : Room) (s : State) (m : MethodId) (args : Array Value) (below : List Frame) (meth : Method) (c : Code) (cells slots : Nat) (Q : State → Prop),
    Cx X ad D ca A p R s m args c cells slots own cc nL d →
    (∀ (pc' : Nat) (ls : Array Slot) (H : Heap) (locs : List Loc), decode cc pc' = .ok (retI r, 1) → Wd D ad ca h' A s.heap H locs → W p l e R s m args below meth c H locs cells slots Q (F0 m pc' ls ((r.map (cv ad)).toList))) →
    ∀ (ls : Array Slot) (H : Heap) (locs : List Loc), Wd D ad ca h A s.heap H locs → LVS ad ls nL lv → W p l e R s m args below meth c H locs cells slots Q (F0 m pc ls (st.map (cv ad)))
/-- what a return type asks of an answer -/
def rok (ret : Option FieldType) (r : Option Value) : Prop := match ret, r with
  | none, none => True
  | some ty, some (.int v) => narrow ty (.int v) = .int v
  | some .long, some (.long _) => True
  | some (.object _), some (.ref _) => True
  | _, _ => False
/-- the locals at a method's begin -/
def lv0 : List Value → List Value
  | [] => []
  | .long x :: r => .long x :: .null :: lv0 r
  | .double x :: r => .double x :: .null :: lv0 r
  | v :: r => v :: lv0 r
def lvE (nL : Nat) (as : List Value) : List Value := lv0 as ++ List.replicate (nL - (lv0 as).length) .null
/-- a method's contract: with these arguments in this state it returns r, with the state h' -/
def Ct (X : Sc) (y : MethodName) (cc : ByteArray) (nL : Nat) (ret : Option FieldType) (d : Nat) (as : List Value) (h : Hp) (r : Option Value) (h' : Hp) : Prop :=
  rok ret r ∧ Go X y.cls cc nL d 0 (lvE nL as) [] h r h'
theorem cv_cat (ad : Nat → Nat) (v : Value) : (cv ad v).category = v.category := by cases v <;> rfl
def lvl (ad : Nat → Nat) (lv : List Value) : List (Nat × Value) := (List.range lv.length).filterMap fun j => match lv[j]? with
  | some v => if nul v then none else some (j, cv ad v)
  | none => none
theorem lvl_in {ad : Nat → Nat} {lv : List Value} {i : Nat} {v : Value} (h : lv[i]? = some v) (hn : nul v = false) : (i, cv ad v) ∈ lvl ad lv := by
  refine List.mem_filterMap.mpr ⟨i, List.mem_range.mpr (List.getElem?_eq_some_iff.mp h).1, ?_⟩
  simp [h, hn]
theorem lvl_has {ad : Nat → Nat} {ls : Array Slot} {nL : Nat} {lv : List Value} (h : LVS ad ls nL lv) : lv_has ls nL (lvl ad lv) := by
  refine ⟨h.1, h.2.1, fun q hq => ?_⟩
  obtain ⟨j, -, hj⟩ := List.mem_filterMap.mp hq
  cases hv : lv[j]? with
  | none => simp [hv] at hj
  | some v =>
    cases hn : nul v with
    | true => simp [hv, hn] at hj
    | false =>
      simp [hv, hn] at hj
      subst hj
      exact h.2.2 j v hv hn
def lvp (lv : List Value) : Nat → Bool
  | 0 => true
  | j + 1 => (lv.getD j .null).category == 1
theorem LVS.set1 {ad : Nat → Nat} {ls : Array Slot} {nL i : Nat} {lv : List Value} {v : Value} (h : lv_has ls nL ((i, cv ad v) :: (lvl ad lv).filter (fun q => !(q.1 == i) && !(q.1 + 1 == i && q.2.category == 2)))) (hp : lvp lv i = true) : LVS ad ls nL (lv.set i v) := by
  refine ⟨h.1, h.2.1, fun j u hj hn => ?_⟩
  by_cases e : i = j
  · subst e
    have hl : i < lv.length := by
      have := (List.getElem?_eq_some_iff.mp hj).1
      rwa [List.length_set] at this
    rw [List.getElem?_set_self hl] at hj
    cases hj
    exact h.2.2 _ List.mem_cons_self
  · rw [List.getElem?_set_ne e] at hj
    refine h.2.2 (j, cv ad u) (List.mem_cons_of_mem _ (List.mem_filter.mpr ⟨lvl_in hj hn, ?_⟩))
    have e1 : (j == i) = false := by simp; exact fun q => e q.symm
    have e2 : ¬ (j + 1 = i ∧ u.category = 2) := by
      rintro ⟨rfl, q⟩
      simp [lvp, List.getD_eq_getElem?_getD, hj] at hp
      omega
    have e3 : (j + 1 == i && (cv ad u).category == 2) = false := by
      rw [cv_cat, Bool.and_eq_false_iff]
      by_cases e4 : j + 1 = i
      · exact Or.inr (beq_eq_false_iff_ne.mpr (fun q => e2 ⟨e4, q⟩))
      · exact Or.inl (beq_eq_false_iff_ne.mpr e4)
    show (!(j == i) && !(j + 1 == i && (cv ad u).category == 2)) = true
    rw [e1, e3]; rfl
theorem LVS.set2 {ad : Nat → Nat} {ls : Array Slot} {nL i : Nat} {lv : List Value} {v : Value} (h : lv_has ls nL ((i, cv ad v) :: (lvl ad lv).filter (fun q => !(q.1 == i) && (!(q.1 == i + 1) && !(q.1 + 1 == i && q.2.category == 2))))) (hp : lvp lv i = true) : LVS ad ls nL ((lv.set i v).set (i + 1) .null) := by
  refine ⟨h.1, h.2.1, fun j u hj hn => ?_⟩
  by_cases e0 : i + 1 = j
  · subst e0
    have hl : i + 1 < (lv.set i v).length := by
      have := (List.getElem?_eq_some_iff.mp hj).1
      rwa [List.length_set] at this
    rw [List.getElem?_set_self hl] at hj
    cases hj
    cases hn
  · rw [List.getElem?_set_ne e0] at hj
    by_cases e : i = j
    · subst e
      have hl : i < lv.length := by
        have := (List.getElem?_eq_some_iff.mp hj).1
        rwa [List.length_set] at this
      rw [List.getElem?_set_self hl] at hj
      cases hj
      exact h.2.2 _ List.mem_cons_self
    · rw [List.getElem?_set_ne e] at hj
      refine h.2.2 (j, cv ad u) (List.mem_cons_of_mem _ (List.mem_filter.mpr ⟨lvl_in hj hn, ?_⟩))
      have e1 : (j == i) = false := by simp; exact fun q => e q.symm
      have e1' : (j == i + 1) = false := by simp; exact fun q => e0 q.symm
      have e2 : ¬ (j + 1 = i ∧ u.category = 2) := by
        rintro ⟨rfl, q⟩
        simp [lvp, List.getD_eq_getElem?_getD, hj] at hp
        omega
      have e3 : (j + 1 == i && (cv ad u).category == 2) = false := by
        rw [cv_cat, Bool.and_eq_false_iff]
        by_cases e4 : j + 1 = i
        · exact Or.inr (beq_eq_false_iff_ne.mpr (fun q => e2 ⟨e4, q⟩))
        · exact Or.inl (beq_eq_false_iff_ne.mpr e4)
      show (!(j == i) && (!(j == i + 1) && !(j + 1 == i && (cv ad u).category == 2))) = true
      rw [e1, e1', e3]; rfl
theorem gT_in {w : Cond} (h : w ∈ lw_tbl) (hg : goodWord w = true) : w ∈ gT := List.mem_filter.mpr ⟨h, hg⟩
theorem gT_good : ∀ w ∈ gT, (w.onTables && w.keeps) = true ∨ ∃ ty, w = .arrayClass ty := fun w hw => good_of_word (List.mem_filter.mp hw).2
section GO
variable {X : Sc} {own : String} {cc : ByteArray} {nL d pc : Nat} {lv st : List Value} {h h' : Hp} {r : Option Value}
theorem g_iadd {x y : Int32} (hd : decode cc pc = .ok (.iadd, 1)) (k : Go X own cc nL d (pc + 1) lv (.int (x + y) :: st) h r h') : Go X own cc nL d pc lv (.int y :: .int x :: st) h r h' :=
  fun ad D ca A p l e R s m args below meth c cells slots Q C F ls H locs hw hl => lv_iadd C.1 C.2.1 hd (k ad D ca A p l e R s m args below meth c cells slots Q C F ls H locs hw hl)
theorem g_isub {x y : Int32} (hd : decode cc pc = .ok (.isub, 1)) (k : Go X own cc nL d (pc + 1) lv (.int (x - y) :: st) h r h') : Go X own cc nL d pc lv (.int y :: .int x :: st) h r h' :=
  fun ad D ca A p l e R s m args below meth c cells slots Q C F ls H locs hw hl => lv_isub C.1 C.2.1 hd (k ad D ca A p l e R s m args below meth c cells slots Q C F ls H locs hw hl)
theorem g_imul {x y : Int32} (hd : decode cc pc = .ok (.imul, 1)) (k : Go X own cc nL d (pc + 1) lv (.int (x * y) :: st) h r h') : Go X own cc nL d pc lv (.int y :: .int x :: st) h r h' :=
  fun ad D ca A p l e R s m args below meth c cells slots Q C F ls H locs hw hl => lv_imul C.1 C.2.1 hd (k ad D ca A p l e R s m args below meth c cells slots Q C F ls H locs hw hl)
theorem g_iand {x y : Int32} (hd : decode cc pc = .ok (.iand, 1)) (k : Go X own cc nL d (pc + 1) lv (.int (x &&& y) :: st) h r h') : Go X own cc nL d pc lv (.int y :: .int x :: st) h r h' :=
  fun ad D ca A p l e R s m args below meth c cells slots Q C F ls H locs hw hl => lv_iand C.1 C.2.1 hd (k ad D ca A p l e R s m args below meth c cells slots Q C F ls H locs hw hl)
theorem g_ior {x y : Int32} (hd : decode cc pc = .ok (.ior, 1)) (k : Go X own cc nL d (pc + 1) lv (.int (x ||| y) :: st) h r h') : Go X own cc nL d pc lv (.int y :: .int x :: st) h r h' :=
  fun ad D ca A p l e R s m args below meth c cells slots Q C F ls H locs hw hl => lv_ior C.1 C.2.1 hd (k ad D ca A p l e R s m args below meth c cells slots Q C F ls H locs hw hl)
theorem g_ishl {x y : Int32} (hd : decode cc pc = .ok (.ishl, 1)) (k : Go X own cc nL d (pc + 1) lv (.int (x <<< (y &&& 31)) :: st) h r h') : Go X own cc nL d pc lv (.int y :: .int x :: st) h r h' :=
  fun ad D ca A p l e R s m args below meth c cells slots Q C F ls H locs hw hl => lv_ishl C.1 C.2.1 hd (k ad D ca A p l e R s m args below meth c cells slots Q C F ls H locs hw hl)
theorem g_ishr {x y : Int32} (hd : decode cc pc = .ok (.ishr, 1)) (k : Go X own cc nL d (pc + 1) lv (.int (x >>> (y &&& 31)) :: st) h r h') : Go X own cc nL d pc lv (.int y :: .int x :: st) h r h' :=
  fun ad D ca A p l e R s m args below meth c cells slots Q C F ls H locs hw hl => lv_ishr C.1 C.2.1 hd (k ad D ca A p l e R s m args below meth c cells slots Q C F ls H locs hw hl)
theorem g_iushr {x y : Int32} (hd : decode cc pc = .ok (.iushr, 1)) (k : Go X own cc nL d (pc + 1) lv (.int ((x.toUInt32 >>> (y.toUInt32 &&& Int32.toUInt32 31)).toInt32) :: st) h r h') : Go X own cc nL d pc lv (.int y :: .int x :: st) h r h' :=
  fun ad D ca A p l e R s m args below meth c cells slots Q C F ls H locs hw hl => lv_iushr C.1 C.2.1 hd rfl (k ad D ca A p l e R s m args below meth c cells slots Q C F ls H locs hw hl)
theorem g_idiv {x y : Int32} (hd : decode cc pc = .ok (.idiv, 1)) (hn : ¬ y = 0) (k : Go X own cc nL d (pc + 1) lv (.int (x / y) :: st) h r h') : Go X own cc nL d pc lv (.int y :: .int x :: st) h r h' :=
  fun ad D ca A p l e R s m args below meth c cells slots Q C F ls H locs hw hl => lv_idiv C.1 C.2.1 hd hn (k ad D ca A p l e R s m args below meth c cells slots Q C F ls H locs hw hl)
theorem g_irem {x y : Int32} (hd : decode cc pc = .ok (.irem, 1)) (hn : ¬ y = 0) (k : Go X own cc nL d (pc + 1) lv (.int (x - x / y * y) :: st) h r h') : Go X own cc nL d pc lv (.int y :: .int x :: st) h r h' :=
  fun ad D ca A p l e R s m args below meth c cells slots Q C F ls H locs hw hl => lv_irem C.1 C.2.1 hd hn (k ad D ca A p l e R s m args below meth c cells slots Q C F ls H locs hw hl)
theorem g_ineg {x : Int32} (hd : decode cc pc = .ok (.ineg, 1)) (k : Go X own cc nL d (pc + 1) lv (.int (-x) :: st) h r h') : Go X own cc nL d pc lv (.int x :: st) h r h' :=
  fun ad D ca A p l e R s m args below meth c cells slots Q C F ls H locs hw hl => lv_ineg C.1 C.2.1 hd (k ad D ca A p l e R s m args below meth c cells slots Q C F ls H locs hw hl)
theorem g_lmul {x y : Int64} (hd : decode cc pc = .ok (.lmul, 1)) (k : Go X own cc nL d (pc + 1) lv (.long (x * y) :: st) h r h') : Go X own cc nL d pc lv (.long y :: .long x :: st) h r h' :=
  fun ad D ca A p l e R s m args below meth c cells slots Q C F ls H locs hw hl => lv_lmul C.1 C.2.1 hd (k ad D ca A p l e R s m args below meth c cells slots Q C F ls H locs hw hl)
theorem g_i2l {x : Int32} (hd : decode cc pc = .ok (.i2l, 1)) (k : Go X own cc nL d (pc + 1) lv (.long x.toInt64 :: st) h r h') : Go X own cc nL d pc lv (.int x :: st) h r h' :=
  fun ad D ca A p l e R s m args below meth c cells slots Q C F ls H locs hw hl => lv_i2l C.1 C.2.1 hd rfl (k ad D ca A p l e R s m args below meth c cells slots Q C F ls H locs hw hl)
theorem g_i2b {x : Int32} (hd : decode cc pc = .ok (.i2b, 1)) (k : Go X own cc nL d (pc + 1) lv (.int x.toInt8.toInt32 :: st) h r h') : Go X own cc nL d pc lv (.int x :: st) h r h' :=
  fun ad D ca A p l e R s m args below meth c cells slots Q C F ls H locs hw hl => lv_i2b C.1 C.2.1 hd rfl (k ad D ca A p l e R s m args below meth c cells slots Q C F ls H locs hw hl)
theorem g_i2s {x : Int32} (hd : decode cc pc = .ok (.i2s, 1)) (k : Go X own cc nL d (pc + 1) lv (.int x.toInt16.toInt32 :: st) h r h') : Go X own cc nL d pc lv (.int x :: st) h r h' :=
  fun ad D ca A p l e R s m args below meth c cells slots Q C F ls H locs hw hl => lv_i2s C.1 C.2.1 hd rfl (k ad D ca A p l e R s m args below meth c cells slots Q C F ls H locs hw hl)
theorem g_i2c {x : Int32} (hd : decode cc pc = .ok (.i2c, 1)) (k : Go X own cc nL d (pc + 1) lv (.int (x.toUInt32 % 65536).toInt32 :: st) h r h') : Go X own cc nL d pc lv (.int x :: st) h r h' :=
  fun ad D ca A p l e R s m args below meth c cells slots Q C F ls H locs hw hl => lv_i2c C.1 C.2.1 hd rfl (k ad D ca A p l e R s m args below meth c cells slots Q C F ls H locs hw hl)
theorem g_iconst {n : Int} {v : Int32} (hd : decode cc pc = .ok (.iconst n, 1)) (hv : Int32.ofInt n = v) (k : Go X own cc nL d (pc + 1) lv (.int v :: st) h r h') : Go X own cc nL d pc lv st h r h' :=
  fun ad D ca A p l e R s m args below meth c cells slots Q C F ls H locs hw hl => lv_iconst C.1 C.2.1 hd hv (k ad D ca A p l e R s m args below meth c cells slots Q C F ls H locs hw hl)
theorem g_bipush {n : Int} {v : Int32} (hd : decode cc pc = .ok (.bipush n, 2)) (hv : (Int8.ofInt n).toInt32 = v) (k : Go X own cc nL d (pc + 2) lv (.int v :: st) h r h') : Go X own cc nL d pc lv st h r h' :=
  fun ad D ca A p l e R s m args below meth c cells slots Q C F ls H locs hw hl => lv_bipush C.1 C.2.1 hd hv (k ad D ca A p l e R s m args below meth c cells slots Q C F ls H locs hw hl)
theorem g_sipush {n : Int} {v : Int32} (hd : decode cc pc = .ok (.sipush n, 3)) (hv : (Int16.ofInt n).toInt32 = v) (k : Go X own cc nL d (pc + 3) lv (.int v :: st) h r h') : Go X own cc nL d pc lv st h r h' :=
  fun ad D ca A p l e R s m args below meth c cells slots Q C F ls H locs hw hl => lv_sipush C.1 C.2.1 hd hv (k ad D ca A p l e R s m args below meth c cells slots Q C F ls H locs hw hl)
theorem g_lconst {n : Fin 2} {v : Int64} (hd : decode cc pc = .ok (.lconst n, 1)) (hv : Int64.ofNat (n : Nat) = v) (k : Go X own cc nL d (pc + 1) lv (.long v :: st) h r h') : Go X own cc nL d pc lv st h r h' :=
  fun ad D ca A p l e R s m args below meth c cells slots Q C F ls H locs hw hl => lv_lconst C.1 C.2.1 hd hv (k ad D ca A p l e R s m args below meth c cells slots Q C F ls H locs hw hl)
theorem g_ldc {i : Nat} {v : Int32} (hd : decode cc pc = .ok (.ldc i, 2)) (hc : Cond.constant own i v ∈ gT) (k : Go X own cc nL d (pc + 2) lv (.int v :: st) h r h') : Go X own cc nL d pc lv st h r h' :=
  fun ad D ca A p l e R s m args below meth c cells slots Q C F ls H locs hw hl => lv_ldc C.1 C.2.1 C.2.2.2.1 (C.2.2.2.2.1 _ hc) hd (k ad D ca A p l e R s m args below meth c cells slots Q C F ls H locs hw hl)
theorem g_ldcw {i : Nat} {v : Int32} (hd : decode cc pc = .ok (.ldc_w i, 3)) (hc : Cond.constant own i v ∈ gT) (k : Go X own cc nL d (pc + 3) lv (.int v :: st) h r h') : Go X own cc nL d pc lv st h r h' :=
  fun ad D ca A p l e R s m args below meth c cells slots Q C F ls H locs hw hl => lv_ldcw C.1 C.2.1 C.2.2.2.1 (C.2.2.2.2.1 _ hc) hd (k ad D ca A p l e R s m args below meth c cells slots Q C F ls H locs hw hl)
theorem g_iload_n {i : Fin 4} {x : Int32} (hd : decode cc pc = .ok (.iload_n i, 1)) (hi : lv[(i : Nat)]? = some (.int x)) (k : Go X own cc nL d (pc + 1) lv (.int x :: st) h r h') : Go X own cc nL d pc lv st h r h' :=
  fun ad D ca A p l e R s m args below meth c cells slots Q C F ls H locs hw hl => lv_iload_n C.1 C.2.1 hd rfl (hl.2.2 _ _ hi rfl) (k ad D ca A p l e R s m args below meth c cells slots Q C F ls H locs hw hl)
theorem g_iload {i : Nat} {x : Int32} (hd : decode cc pc = .ok (.iload i, 2)) (hi : lv[i]? = some (.int x)) (k : Go X own cc nL d (pc + 2) lv (.int x :: st) h r h') : Go X own cc nL d pc lv st h r h' :=
  fun ad D ca A p l e R s m args below meth c cells slots Q C F ls H locs hw hl => lv_iload C.1 C.2.1 hd (hl.2.2 _ _ hi rfl) (k ad D ca A p l e R s m args below meth c cells slots Q C F ls H locs hw hl)
theorem g_aload_n {i : Fin 4} {x : Nat} (hd : decode cc pc = .ok (.aload_n i, 1)) (hi : lv[(i : Nat)]? = some (.ref x)) (k : Go X own cc nL d (pc + 1) lv (.ref x :: st) h r h') : Go X own cc nL d pc lv st h r h' :=
  fun ad D ca A p l e R s m args below meth c cells slots Q C F ls H locs hw hl => lv_aload_n C.1 C.2.1 hd rfl (hl.2.2 _ _ hi rfl) (k ad D ca A p l e R s m args below meth c cells slots Q C F ls H locs hw hl)
theorem g_aload {i : Nat} {x : Nat} (hd : decode cc pc = .ok (.aload i, 2)) (hi : lv[i]? = some (.ref x)) (k : Go X own cc nL d (pc + 2) lv (.ref x :: st) h r h') : Go X own cc nL d pc lv st h r h' :=
  fun ad D ca A p l e R s m args below meth c cells slots Q C F ls H locs hw hl => lv_aload C.1 C.2.1 hd (hl.2.2 _ _ hi rfl) (k ad D ca A p l e R s m args below meth c cells slots Q C F ls H locs hw hl)
theorem g_lload_n {i : Fin 4} {x : Int64} (hd : decode cc pc = .ok (.lload_n i, 1)) (hi : lv[(i : Nat)]? = some (.long x)) (k : Go X own cc nL d (pc + 1) lv (.long x :: st) h r h') : Go X own cc nL d pc lv st h r h' :=
  fun ad D ca A p l e R s m args below meth c cells slots Q C F ls H locs hw hl => lv_lload_n C.1 C.2.1 hd rfl (hl.2.2 _ _ hi rfl) (k ad D ca A p l e R s m args below meth c cells slots Q C F ls H locs hw hl)
theorem g_lload {i : Nat} {x : Int64} (hd : decode cc pc = .ok (.lload i, 2)) (hi : lv[i]? = some (.long x)) (k : Go X own cc nL d (pc + 2) lv (.long x :: st) h r h') : Go X own cc nL d pc lv st h r h' :=
  fun ad D ca A p l e R s m args below meth c cells slots Q C F ls H locs hw hl => lv_lload C.1 C.2.1 hd (hl.2.2 _ _ hi rfl) (k ad D ca A p l e R s m args below meth c cells slots Q C F ls H locs hw hl)
theorem g_istore_n {i : Fin 4} {x : Int32} (hd : decode cc pc = .ok (.istore_n i, 1)) (hi : (i : Nat) < nL) (hp : lvp lv (i : Nat) = true) (k : Go X own cc nL d (pc + 1) (lv.set (i : Nat) (.int x)) st h r h') : Go X own cc nL d pc lv (.int x :: st) h r h' :=
  fun ad D ca A p l e R s m args below meth c cells slots Q C F ls H locs hw hl => lv_istore_n C.1 C.2.1 hd rfl (lvl_has hl) hi rfl (fun ls2 hl2 => k ad D ca A p l e R s m args below meth c cells slots Q C F ls2 H locs hw (LVS.set1 (v := .int x) hl2 hp))
theorem g_istore {i : Nat} {x : Int32} (hd : decode cc pc = .ok (.istore i, 2)) (hi : i < nL) (hp : lvp lv i = true) (k : Go X own cc nL d (pc + 2) (lv.set i (.int x)) st h r h') : Go X own cc nL d pc lv (.int x :: st) h r h' :=
  fun ad D ca A p l e R s m args below meth c cells slots Q C F ls H locs hw hl => lv_istore C.1 C.2.1 hd (lvl_has hl) hi rfl (fun ls2 hl2 => k ad D ca A p l e R s m args below meth c cells slots Q C F ls2 H locs hw (LVS.set1 (v := .int x) hl2 hp))
theorem g_astore_n {i : Fin 4} {x : Nat} (hd : decode cc pc = .ok (.astore_n i, 1)) (hi : (i : Nat) < nL) (hp : lvp lv (i : Nat) = true) (k : Go X own cc nL d (pc + 1) (lv.set (i : Nat) (.ref x)) st h r h') : Go X own cc nL d pc lv (.ref x :: st) h r h' :=
  fun ad D ca A p l e R s m args below meth c cells slots Q C F ls H locs hw hl => lv_astore_n C.1 C.2.1 hd rfl (lvl_has hl) hi rfl (fun ls2 hl2 => k ad D ca A p l e R s m args below meth c cells slots Q C F ls2 H locs hw (LVS.set1 (v := .ref x) hl2 hp))
theorem g_astore {i : Nat} {x : Nat} (hd : decode cc pc = .ok (.astore i, 2)) (hi : i < nL) (hp : lvp lv i = true) (k : Go X own cc nL d (pc + 2) (lv.set i (.ref x)) st h r h') : Go X own cc nL d pc lv (.ref x :: st) h r h' :=
  fun ad D ca A p l e R s m args below meth c cells slots Q C F ls H locs hw hl => lv_astore C.1 C.2.1 hd (lvl_has hl) hi rfl (fun ls2 hl2 => k ad D ca A p l e R s m args below meth c cells slots Q C F ls2 H locs hw (LVS.set1 (v := .ref x) hl2 hp))
theorem g_lstore_n {i : Fin 4} {x : Int64} (hd : decode cc pc = .ok (.lstore_n i, 1)) (hi : (i : Nat) + 1 < nL) (hp : lvp lv (i : Nat) = true) (k : Go X own cc nL d (pc + 1) ((lv.set (i : Nat) (.long x)).set ((i : Nat) + 1) .null) st h r h') : Go X own cc nL d pc lv (.long x :: st) h r h' :=
  fun ad D ca A p l e R s m args below meth c cells slots Q C F ls H locs hw hl => lv_lstore_n C.1 C.2.1 hd rfl (lvl_has hl) hi rfl (fun ls2 hl2 => k ad D ca A p l e R s m args below meth c cells slots Q C F ls2 H locs hw (LVS.set2 (v := .long x) hl2 hp))
theorem g_lstore {i : Nat} {x : Int64} (hd : decode cc pc = .ok (.lstore i, 2)) (hi : i + 1 < nL) (hp : lvp lv i = true) (k : Go X own cc nL d (pc + 2) ((lv.set i (.long x)).set (i + 1) .null) st h r h') : Go X own cc nL d pc lv (.long x :: st) h r h' :=
  fun ad D ca A p l e R s m args below meth c cells slots Q C F ls H locs hw hl => lv_lstore C.1 C.2.1 hd (lvl_has hl) hi rfl (fun ls2 hl2 => k ad D ca A p l e R s m args below meth c cells slots Q C F ls2 H locs hw (LVS.set2 (v := .long x) hl2 hp))
theorem g_iinc {i : Nat} {n : Int} {x v : Int32} (hd : decode cc pc = .ok (.iinc i n, 3)) (hx : lv[i]? = some (.int x)) (hv : x + Int32.ofInt n = v) (hi : i < nL) (hp : lvp lv i = true) (k : Go X own cc nL d (pc + 3) (lv.set i (.int v)) st h r h') : Go X own cc nL d pc lv st h r h' := by
  intro ad D ca A p l e R s m args below meth c cells slots Q C F ls H locs hw hl
  obtain ⟨q, hq⟩ := List.mem_iff_getElem?.mp (lvl_in (ad := ad) hx rfl)
  exact lv_iinc C.1 C.2.1 hd (lvl_has hl) hq hv hi rfl (fun ls2 hl2 => k ad D ca A p l e R s m args below meth c cells slots Q C F ls2 H locs hw (LVS.set1 (v := .int v) hl2 hp))
theorem g_dup {v : Value} (hd : decode cc pc = .ok (.dup, 1)) (hv : v.category = 1) (k : Go X own cc nL d (pc + 1) lv (v :: v :: st) h r h') : Go X own cc nL d pc lv (v :: st) h r h' :=
  fun ad D ca A p l e R s m args below meth c cells slots Q C F ls H locs hw hl => lv_dup C.1 C.2.1 hd (by rw [cv_cat]; exact hv) (k ad D ca A p l e R s m args below meth c cells slots Q C F ls H locs hw hl)
theorem g_pop {v : Value} (hd : decode cc pc = .ok (.pop, 1)) (hv : v.category = 1) (k : Go X own cc nL d (pc + 1) lv st h r h') : Go X own cc nL d pc lv (v :: st) h r h' :=
  fun ad D ca A p l e R s m args below meth c cells slots Q C F ls H locs hw hl => lv_pop C.1 C.2.1 hd (by rw [cv_cat]; exact hv) (k ad D ca A p l e R s m args below meth c cells slots Q C F ls H locs hw hl)
theorem g_dup2 {v u : Value} (hd : decode cc pc = .ok (.dup2, 1)) (hv : v.category = 1) (hu : u.category = 1) (k : Go X own cc nL d (pc + 1) lv (v :: u :: v :: u :: st) h r h') : Go X own cc nL d pc lv (v :: u :: st) h r h' :=
  fun ad D ca A p l e R s m args below meth c cells slots Q C F ls H locs hw hl => lv_dup2_11 C.1 C.2.1 hd (by rw [cv_cat]; exact hv) (by rw [cv_cat]; exact hu) (k ad D ca A p l e R s m args below meth c cells slots Q C F ls H locs hw hl)
theorem g_if_eq {x : Int32} {off : Int} (tgt : Nat) (hd : decode cc pc = .ok (.ifCond .eq off, 3)) (ht : (pc : Int) + off = (tgt : Int)) (kt : x = 0 → Go X own cc nL d tgt lv st h r h') (kf : ¬ x = 0 → Go X own cc nL d (pc + 3) lv st h r h') : Go X own cc nL d pc lv (.int x :: st) h r h' :=
  fun ad D ca A p l e R s m args below meth c cells slots Q C F ls H locs hw hl => lv_if_eq C.1 C.2.1 hd ht (fun q => kt q ad D ca A p l e R s m args below meth c cells slots Q C F ls H locs hw hl) (fun q => kf q ad D ca A p l e R s m args below meth c cells slots Q C F ls H locs hw hl)
theorem g_if_ne {x : Int32} {off : Int} (tgt : Nat) (hd : decode cc pc = .ok (.ifCond .ne off, 3)) (ht : (pc : Int) + off = (tgt : Int)) (kt : ¬ x = 0 → Go X own cc nL d tgt lv st h r h') (kf : x = 0 → Go X own cc nL d (pc + 3) lv st h r h') : Go X own cc nL d pc lv (.int x :: st) h r h' :=
  fun ad D ca A p l e R s m args below meth c cells slots Q C F ls H locs hw hl => lv_if_ne C.1 C.2.1 hd ht (fun q => kt q ad D ca A p l e R s m args below meth c cells slots Q C F ls H locs hw hl) (fun q => kf q ad D ca A p l e R s m args below meth c cells slots Q C F ls H locs hw hl)
theorem g_if_lt {x : Int32} {off : Int} (tgt : Nat) (hd : decode cc pc = .ok (.ifCond .lt off, 3)) (ht : (pc : Int) + off = (tgt : Int)) (kt : x < 0 → Go X own cc nL d tgt lv st h r h') (kf : ¬ x < 0 → Go X own cc nL d (pc + 3) lv st h r h') : Go X own cc nL d pc lv (.int x :: st) h r h' :=
  fun ad D ca A p l e R s m args below meth c cells slots Q C F ls H locs hw hl => lv_if_lt C.1 C.2.1 hd ht (fun q => kt q ad D ca A p l e R s m args below meth c cells slots Q C F ls H locs hw hl) (fun q => kf q ad D ca A p l e R s m args below meth c cells slots Q C F ls H locs hw hl)
theorem g_if_ge {x : Int32} {off : Int} (tgt : Nat) (hd : decode cc pc = .ok (.ifCond .ge off, 3)) (ht : (pc : Int) + off = (tgt : Int)) (kt : 0 ≤ x → Go X own cc nL d tgt lv st h r h') (kf : ¬ 0 ≤ x → Go X own cc nL d (pc + 3) lv st h r h') : Go X own cc nL d pc lv (.int x :: st) h r h' :=
  fun ad D ca A p l e R s m args below meth c cells slots Q C F ls H locs hw hl => lv_if_ge C.1 C.2.1 hd ht (fun q => kt q ad D ca A p l e R s m args below meth c cells slots Q C F ls H locs hw hl) (fun q => kf q ad D ca A p l e R s m args below meth c cells slots Q C F ls H locs hw hl)
theorem g_if_gt {x : Int32} {off : Int} (tgt : Nat) (hd : decode cc pc = .ok (.ifCond .gt off, 3)) (ht : (pc : Int) + off = (tgt : Int)) (kt : 0 < x → Go X own cc nL d tgt lv st h r h') (kf : ¬ 0 < x → Go X own cc nL d (pc + 3) lv st h r h') : Go X own cc nL d pc lv (.int x :: st) h r h' :=
  fun ad D ca A p l e R s m args below meth c cells slots Q C F ls H locs hw hl => lv_if_gt C.1 C.2.1 hd ht (fun q => kt q ad D ca A p l e R s m args below meth c cells slots Q C F ls H locs hw hl) (fun q => kf q ad D ca A p l e R s m args below meth c cells slots Q C F ls H locs hw hl)
theorem g_if_le {x : Int32} {off : Int} (tgt : Nat) (hd : decode cc pc = .ok (.ifCond .le off, 3)) (ht : (pc : Int) + off = (tgt : Int)) (kt : x ≤ 0 → Go X own cc nL d tgt lv st h r h') (kf : ¬ x ≤ 0 → Go X own cc nL d (pc + 3) lv st h r h') : Go X own cc nL d pc lv (.int x :: st) h r h' :=
  fun ad D ca A p l e R s m args below meth c cells slots Q C F ls H locs hw hl => lv_if_le C.1 C.2.1 hd ht (fun q => kt q ad D ca A p l e R s m args below meth c cells slots Q C F ls H locs hw hl) (fun q => kf q ad D ca A p l e R s m args below meth c cells slots Q C F ls H locs hw hl)
theorem g_icmp_eq {x y : Int32} {off : Int} (tgt : Nat) (hd : decode cc pc = .ok (.if_icmp .eq off, 3)) (ht : (pc : Int) + off = (tgt : Int)) (kt : x = y → Go X own cc nL d tgt lv st h r h') (kf : ¬ x = y → Go X own cc nL d (pc + 3) lv st h r h') : Go X own cc nL d pc lv (.int y :: .int x :: st) h r h' :=
  fun ad D ca A p l e R s m args below meth c cells slots Q C F ls H locs hw hl => lv_icmp_eq C.1 C.2.1 hd ht (fun q => kt q ad D ca A p l e R s m args below meth c cells slots Q C F ls H locs hw hl) (fun q => kf q ad D ca A p l e R s m args below meth c cells slots Q C F ls H locs hw hl)
theorem g_icmp_ne {x y : Int32} {off : Int} (tgt : Nat) (hd : decode cc pc = .ok (.if_icmp .ne off, 3)) (ht : (pc : Int) + off = (tgt : Int)) (kt : ¬ x = y → Go X own cc nL d tgt lv st h r h') (kf : x = y → Go X own cc nL d (pc + 3) lv st h r h') : Go X own cc nL d pc lv (.int y :: .int x :: st) h r h' :=
  fun ad D ca A p l e R s m args below meth c cells slots Q C F ls H locs hw hl => lv_icmp_ne C.1 C.2.1 hd ht (fun q => kt q ad D ca A p l e R s m args below meth c cells slots Q C F ls H locs hw hl) (fun q => kf q ad D ca A p l e R s m args below meth c cells slots Q C F ls H locs hw hl)
theorem g_icmp_lt {x y : Int32} {off : Int} (tgt : Nat) (hd : decode cc pc = .ok (.if_icmp .lt off, 3)) (ht : (pc : Int) + off = (tgt : Int)) (kt : x < y → Go X own cc nL d tgt lv st h r h') (kf : ¬ x < y → Go X own cc nL d (pc + 3) lv st h r h') : Go X own cc nL d pc lv (.int y :: .int x :: st) h r h' :=
  fun ad D ca A p l e R s m args below meth c cells slots Q C F ls H locs hw hl => lv_icmp_lt C.1 C.2.1 hd ht (fun q => kt q ad D ca A p l e R s m args below meth c cells slots Q C F ls H locs hw hl) (fun q => kf q ad D ca A p l e R s m args below meth c cells slots Q C F ls H locs hw hl)
theorem g_icmp_ge {x y : Int32} {off : Int} (tgt : Nat) (hd : decode cc pc = .ok (.if_icmp .ge off, 3)) (ht : (pc : Int) + off = (tgt : Int)) (kt : y ≤ x → Go X own cc nL d tgt lv st h r h') (kf : ¬ y ≤ x → Go X own cc nL d (pc + 3) lv st h r h') : Go X own cc nL d pc lv (.int y :: .int x :: st) h r h' :=
  fun ad D ca A p l e R s m args below meth c cells slots Q C F ls H locs hw hl => lv_icmp_ge C.1 C.2.1 hd ht (fun q => kt q ad D ca A p l e R s m args below meth c cells slots Q C F ls H locs hw hl) (fun q => kf q ad D ca A p l e R s m args below meth c cells slots Q C F ls H locs hw hl)
theorem g_icmp_gt {x y : Int32} {off : Int} (tgt : Nat) (hd : decode cc pc = .ok (.if_icmp .gt off, 3)) (ht : (pc : Int) + off = (tgt : Int)) (kt : y < x → Go X own cc nL d tgt lv st h r h') (kf : ¬ y < x → Go X own cc nL d (pc + 3) lv st h r h') : Go X own cc nL d pc lv (.int y :: .int x :: st) h r h' :=
  fun ad D ca A p l e R s m args below meth c cells slots Q C F ls H locs hw hl => lv_icmp_gt C.1 C.2.1 hd ht (fun q => kt q ad D ca A p l e R s m args below meth c cells slots Q C F ls H locs hw hl) (fun q => kf q ad D ca A p l e R s m args below meth c cells slots Q C F ls H locs hw hl)
theorem g_icmp_le {x y : Int32} {off : Int} (tgt : Nat) (hd : decode cc pc = .ok (.if_icmp .le off, 3)) (ht : (pc : Int) + off = (tgt : Int)) (kt : x ≤ y → Go X own cc nL d tgt lv st h r h') (kf : ¬ x ≤ y → Go X own cc nL d (pc + 3) lv st h r h') : Go X own cc nL d pc lv (.int y :: .int x :: st) h r h' :=
  fun ad D ca A p l e R s m args below meth c cells slots Q C F ls H locs hw hl => lv_icmp_le C.1 C.2.1 hd ht (fun q => kt q ad D ca A p l e R s m args below meth c cells slots Q C F ls H locs hw hl) (fun q => kf q ad D ca A p l e R s m args below meth c cells slots Q C F ls H locs hw hl)
theorem g_goto {off : Int} (tgt : Nat) (hd : decode cc pc = .ok (.goto off, 3)) (ht : (pc : Int) + off = (tgt : Int)) (k : Go X own cc nL d tgt lv st h r h') : Go X own cc nL d pc lv st h r h' :=
  fun ad D ca A p l e R s m args below meth c cells slots Q C F ls H locs hw hl => lv_goto C.1 C.2.1 hd ht (k ad D ca A p l e R s m args below meth c cells slots Q C F ls H locs hw hl)
/-- a case of a table: it is v, or not -/
theorem g_tswc {dflt lo hi : Int} {offs : Array Int} {len : Nat} {x : Int32} (v : Int32) (n : Int) (off : Int) (tgt : Nat) (hd : decode cc pc = .ok (.tableswitch dflt lo hi offs, len)) (hv : v.toInt = n) (h1 : ¬ n < lo) (h2 : ¬ hi < n) (ho : offs[(n - lo).toNat]? = some off) (ht : (pc : Int) + off = (tgt : Int)) (kt : x = v → Go X own cc nL d tgt lv st h r h') (kf : ¬ x = v → ¬ x.toInt = n → Go X own cc nL d pc lv (.int x :: st) h r h') : Go X own cc nL d pc lv (.int x :: st) h r h' := by
  by_cases e : x = v
  · subst e; subst hv
    exact fun ad D ca A p l e R s m args below meth c cells slots Q C F ls H locs hw hl => lv_tableIn C.1 C.2.1 hd h1 h2 ho ht (kt rfl ad D ca A p l e R s m args below meth c cells slots Q C F ls H locs hw hl)
  · exact kf e (fun q => e (Int32.toInt_inj.mp (q.trans hv.symm)))
theorem g_tswd {dflt lo hi : Int} {offs : Array Int} {len : Nat} {x : Int32} (tgt : Nat) (hd : decode cc pc = .ok (.tableswitch dflt lo hi offs, len)) (hx : x.toInt < lo ∨ hi < x.toInt) (ht : (pc : Int) + dflt = (tgt : Int)) (k : Go X own cc nL d tgt lv st h r h') : Go X own cc nL d pc lv (.int x :: st) h r h' :=
  fun ad D ca A p l e R s m args below meth c cells slots Q C F ls H locs hw hl => lv_tableOut C.1 C.2.1 hd hx ht (k ad D ca A p l e R s m args below meth c cells slots Q C F ls H locs hw hl)
def lmask : List Bool → List Value → List Value
  | true :: b, v :: l => v :: lmask b l
  | false :: b, _ :: l => .null :: lmask b l
  | _, _ => []
theorem lmask_at : ∀ (b : List Bool) (l : List Value) (i : Nat) (v : Value), (lmask b l)[i]? = some v → nul v = false → l[i]? = some v
  | [], l, i, v, h, _ => by simp [lmask] at h
  | _ :: _, [], i, v, h, _ => by simp [lmask] at h
  | true :: b, u :: l, 0, v, h, _ => by simpa [lmask] using h
  | true :: b, u :: l, i + 1, v, h, hn => by
    have h1 : (lmask b l)[i]? = some v := by simpa [lmask] using h
    simpa using lmask_at b l i v h1 hn
  | false :: b, u :: l, 0, v, h, hn => by
    have h1 : Value.null = v := by simpa [lmask] using h
    rw [← h1] at hn; cases hn
  | false :: b, u :: l, i + 1, v, h, hn => by
    have h1 : (lmask b l)[i]? = some v := by simpa [lmask] using h
    simpa using lmask_at b l i v h1 hn
/-- what some locals hold is forgotten -/
theorem g_mask (b : List Bool) (k : Go X own cc nL d pc (lmask b lv) st h r h') : Go X own cc nL d pc lv st h r h' :=
  fun ad D ca A p l e R s m args below meth c cells slots Q C F ls H locs hw hl => k ad D ca A p l e R s m args below meth c cells slots Q C F ls H locs hw ⟨hl.1, hl.2.1, fun i v hi hn => hl.2.2 i v (lmask_at b lv i v hi hn) hn⟩
theorem g_ireturn {v : Int32} (hd : decode cc pc = .ok (.ireturn, 1)) (hv : some (.int v) = r) (hh : h = h') : Go X own cc nL d pc lv [.int v] h r h' := by
  subst hv; subst hh
  exact fun ad D ca A p l e R s m args below meth c cells slots Q C F ls H locs hw hl => F pc ls H locs hd hw
theorem g_lreturn {v : Int64} (hd : decode cc pc = .ok (.lreturn, 1)) (hv : some (.long v) = r) (hh : h = h') : Go X own cc nL d pc lv [.long v] h r h' := by
  subst hv; subst hh
  exact fun ad D ca A p l e R s m args below meth c cells slots Q C F ls H locs hw hl => F pc ls H locs hd hw
theorem g_areturn {v : Nat} (hd : decode cc pc = .ok (.areturn, 1)) (hv : some (.ref v) = r) (hh : h = h') : Go X own cc nL d pc lv [.ref v] h r h' := by
  subst hv; subst hh
  exact fun ad D ca A p l e R s m args below meth c cells slots Q C F ls H locs hw hl => F pc ls H locs hd hw
theorem g_return (hd : decode cc pc = .ok (.return_, 1)) (hv : none = r) (hh : h = h') : Go X own cc nL d pc lv [] h r h' := by
  subst hv; subst hh
  exact fun ad D ca A p l e R s m args below meth c cells slots Q C F ls H locs hw hl => F pc ls H locs hd hw
/-! fields -/
def FL (own : String) (idx ci k : Nat) : Prop := ∃ (C : String) (T : u_T) (N : Nat), vwCl[ci]? = some (C, T, N) ∧ k < N ∧ Cond.fieldLink own idx (T k).1 (T k).2.1 (T k).2.2.1 ∈ gT ∧ ∀ w ∈ u_ws C T N, w ∈ gT
def FP (ci k : Nat) (ty : FieldType) : Prop := ∃ (C : String) (T : u_T) (N : Nat) (ty0 : Nat → FieldType), vwCl[ci]? = some (C, T, N) ∧ (T k).2.2.2 = false ∧ parseFieldDescriptor (T k).2.2.1 = some ty ∧ (∀ k, k < N → parseFieldDescriptor (T k).2.2.1 = some (ty0 k)) ∧ ∀ a, a < N → ∀ b, b < N → a ≠ b → (T a).2.1 ≠ (T b).2.1
theorem g_get {idx i ci k : Nat} {fs : List Zf} {f : Zf} (hd : decode cc pc = .ok (.getfield idx, 3)) (hs : shp[i]? = some (.inl (ci, fs))) (hl0 : FL own idx ci k) (hf : fs[k]? = some f) {v : Value} (hv : ∀ ad, fV ad h f = cv ad v) (kk : Go X own cc nL d (pc + 3) lv (v :: st) h r h') : Go X own cc nL d pc lv (.ref i :: st) h r h' := by
  intro ad D ca A p l e R s m args below meth c cells slots Q C F ls H locs hw hl
  obtain ⟨C0, T, N, h1, h2, h3, h4⟩ := hl0
  have k1 := kk ad D ca A p l e R s m args below meth c cells slots Q C F ls H locs hw hl
  refine va_get C.1 C.2.1 C.2.2.2.2.1 h4 C.2.2.2.1 C.2.2.2.2.2.1 hw.1 i (wl_at hs) h1 k h2 (C.2.2.2.2.1 _ h3) (fun _ q => q) (v := cv ad v) ?_ hd k1
  rw [List.getElem?_map, hf, ← hv ad]
  rfl
theorem g_getI {idx i ci k g o : Nat} {fs : List Zf} (hd : decode cc pc = .ok (.getfield idx, 3)) (hl0 : FL own idx ci k) (hs : shp[i]? = some (.inl (ci, fs))) (hf : fs[k]? = some (.inr (g, o))) (kk : Go X own cc nL d (pc + 3) lv (.int (h g o) :: st) h r h') : Go X own cc nL d pc lv (.ref i :: st) h r h' := g_get hd hs hl0 hf (fun _ => rfl) kk
theorem g_getR {idx i ci k j : Nat} {fs : List Zf} (hd : decode cc pc = .ok (.getfield idx, 3)) (hl0 : FL own idx ci k) (hs : shp[i]? = some (.inl (ci, fs))) (hf : fs[k]? = some (.inl j)) (kk : Go X own cc nL d (pc + 3) lv (.ref j :: st) h r h') : Go X own cc nL d pc lv (.ref i :: st) h r h' := g_get hd hs hl0 hf (fun _ => rfl) kk
def ndF (fs : List Zf) : Bool := (List.range fs.length).all fun a => (List.range fs.length).all fun b => a == b || match fs[a]?, fs[b]? with
  | some (.inr p), some (.inr q) => !(p == q)
  | _, _ => true
def shpNd : Bool := shp.all fun s => match s with
  | .inl (_, fs) => ndF fs
  | _ => true
theorem shpNd_ok : shpNd = true := by decide +kernel
theorem ndF_ok {fs : List Zf} (h : ndF fs = true) {a b g o : Nat} (ha : fs[a]? = some (.inr (g, o))) (hb : fs[b]? = some (.inr (g, o))) : a = b := by
  have h1 := List.all_eq_true.mp (List.all_eq_true.mp h a (List.mem_range.mpr (List.getElem?_eq_some_iff.mp ha).1)) b (List.mem_range.mpr (List.getElem?_eq_some_iff.mp hb).1)
  rw [ha, hb] at h1
  by_cases e : a = b
  · exact e
  · simp [e] at h1
theorem shp_nd {i ci : Nat} {fs : List Zf} (hs : shp[i]? = some (.inl (ci, fs))) : ndF fs = true := by
  have := List.all_eq_true.mp shpNd_ok _ (List.mem_of_getElem? hs)
  exact this
theorem occF_in : ∀ (fs : List Zf) (k g o : Nat), fs[k]? = some (.inr (g, o)) → inP (occF fs) g o
  | [], k, g, o, h => by simp at h
  | .inl j :: r, 0, g, o, h => by simp at h
  | .inl j :: r, k + 1, g, o, h => occF_in r k g o (by simpa using h)
  | .inr q :: r, 0, g, o, h => by
    have e : q = (g, o) := by simpa using h
    subst e
    exact ⟨(g, o, 1), List.mem_cons_self, rfl, Nat.le_refl _, Nat.lt_succ_self _⟩
  | .inr (g2, o2) :: r, k + 1, g, o, h => by
    obtain ⟨q, h1, h2⟩ := occF_in r k g o (by simpa using h)
    exact ⟨q, List.mem_cons_of_mem _ h1, h2⟩
theorem fs_put {fs : List Zf} (hn : ndF fs = true) {k g o : Nat} (hk : fs[k]? = some (.inr (g, o))) (ad : Nat → Nat) (h : Hp) (v : Int32) : fs.map (fV ad (up h g o v)) = (fs.map (fV ad h)).set k (.int v) := by
  apply List.ext_getElem?
  intro j
  by_cases e : k = j
  · subst e
    have hl : k < (fs.map (fV ad h)).length := by rw [List.length_map]; exact (List.getElem?_eq_some_iff.mp hk).1
    rw [List.getElem?_set_self hl, List.getElem?_map, hk]
    show some (Value.int (up h g o v g o)) = _
    rw [up_s]
  · rw [List.getElem?_set_ne e, List.getElem?_map, List.getElem?_map]
    cases hj : fs[j]? with
    | none => rfl
    | some f =>
      cases f with
      | inl a => rfl
      | inr q =>
        obtain ⟨g2, o2⟩ := q
        show some (Value.int (up h g o v g2 o2)) = some (Value.int (h g2 o2))
        rw [up_n]
        rintro ⟨rfl, rfl⟩
        exact e (ndF_ok hn hk hj)
theorem g_put {idx i ci k g o : Nat} {fs : List Zf} {v : Int32} {ty : FieldType} (hd : decode cc pc = .ok (.putfield idx, 3)) (hl0 : FL own idx ci k) (hp : FP ci k ty) (hs : shp[i]? = some (.inl (ci, fs))) (hf : fs[k]? = some (.inr (g, o))) (hn : narrow ty (.int v) = .int v) (hfit : fits ty (.int v) = true) (kk : Go X own cc nL d (pc + 3) lv st (up h g o v) r h') : Go X own cc nL d pc lv (.int v :: .ref i :: st) h r h' := by
  intro ad D ca A p l e R s m args below meth c cells slots Q C F ls H locs hw hl
  obtain ⟨C0, T, N, h1, h2, h3, h4⟩ := hl0
  obtain ⟨C1, T1, N1, ty0, p1, p2, p3, p4, p5⟩ := hp
  cases Option.some.inj (h1.symm.trans p1)
  have hk : k < fs.length := (List.getElem?_eq_some_iff.mp hf).1
  refine va_put C.1 C.2.1 C.2.2.2.2.1 h4 ty0 p4 p5 C.2.2.2.1 C.2.2.2.2.2.1 hw.1 (C.2.2.2.2.2.2.2.1.D ca h) hw.2 i (wl_at hs) h1 k h2 (C.2.2.2.2.1 _ h3) (fun _ q => q) p2 (v := .int v) p3 hn hfit (by rw [List.length_map]; exact hk) hd (fun H1 locs1 a1 a2 a3 => ?_)
  refine kk ad D ca A p l e R s m args below meth c cells slots Q C F ls H1 locs1 ⟨WP.upd hs a1 (fun q => ?_) (fun g2 k2 q => ?_), a3⟩ hl
  · show va_at D vwCl (ad i, .inr (ci, fs.map (fV ad (up h g o v)))) H1
    rw [fs_put (shp_nd hs) hf]
    exact q
  · exact up_n h v (fun ⟨e1, e2⟩ => q (by rw [e1, e2]; exact occF_in fs k g o hf))
theorem g_putI {idx i ci k g o : Nat} {fs : List Zf} {v : Int32} (hd : decode cc pc = .ok (.putfield idx, 3)) (hl0 : FL own idx ci k) (hp : FP ci k .int) (hs : shp[i]? = some (.inl (ci, fs))) (hf : fs[k]? = some (.inr (g, o))) (kk : Go X own cc nL d (pc + 3) lv st (up h g o v) r h') : Go X own cc nL d pc lv (.int v :: .ref i :: st) h r h' := g_put hd hl0 hp hs hf rfl rfl kk
/-! arrays -/
def shpSm : Bool := shp.all fun s => match s with
  | .inr (_, n, _, _) => Nat.ble n 160
  | _ => true
theorem shpSm_ok : shpSm = true := by decide +kernel
theorem shp_sm {i t n g o : Nat} (hs : shp[i]? = some (.inr (t, n, g, o))) : n < 2 ^ 31 := by
  have h1 : Nat.ble n 160 = true := List.all_eq_true.mp shpSm_ok _ (List.mem_of_getElem? hs)
  have h2 := Nat.le_of_ble_eq_true h1
  omega
theorem cE_arr {ad : Nat → Nat} {ca : Nat → ClassId} {h : Hp} {t n g o : Nat} (ht : t ≠ 2) : cE ad ca h (.inr (t, n, g, o)) = .inl (ca t, n, .inl (fun j => h g (o + j))) := by simp [cE, ht]
theorem g_iald {i n g o : Nat} {j : Int32} (q : Nat) (hd : decode cc pc = .ok (.iaload, 1)) (hs : shp[i]? = some (.inr (0, n, g, o))) (hj : j = nI q) (hq : q < n) (kk : Go X own cc nL d (pc + 1) lv (.int (h g (o + q)) :: st) h r h') : Go X own cc nL d pc lv (.int j :: .ref i :: st) h r h' := by
  subst hj
  intro ad D ca A p l e R s m args below meth c cells slots Q C F ls H locs hw hl
  have hb := Nat.lt_trans hq (shp_sm hs)
  have k1 := kk ad D ca A p l e R s m args below meth c cells slots Q C F ls H locs hw hl
  have hi : (wl ad ca h)[i]? = some (ad i, .inl (ca 0, n, .inl (fun j => h g (o + j)))) := by rw [wl_at hs, cE_arr (by decide)]
  refine va_iald C.1 C.2.1 C.2.2.2.2.2.1 hw.1 i 0 hi rfl (vp_in_nI hq (shp_sm hs)) hd ?_
  rw [nI_clamp hb]
  exact k1
theorem g_bald {i n g o : Nat} {j : Int32} (q : Nat) (hd : decode cc pc = .ok (.baload, 1)) (hs : shp[i]? = some (.inr (1, n, g, o))) (hj : j = nI q) (hq : q < n) (kk : Go X own cc nL d (pc + 1) lv (.int (h g (o + q)) :: st) h r h') : Go X own cc nL d pc lv (.int j :: .ref i :: st) h r h' := by
  subst hj
  intro ad D ca A p l e R s m args below meth c cells slots Q C F ls H locs hw hl
  have hb := Nat.lt_trans hq (shp_sm hs)
  have k1 := kk ad D ca A p l e R s m args below meth c cells slots Q C F ls H locs hw hl
  have hi : (wl ad ca h)[i]? = some (ad i, .inl (ca 1, n, .inl (fun j => h g (o + j)))) := by rw [wl_at hs, cE_arr (by decide)]
  refine va_bald C.1 C.2.1 C.2.2.2.2.2.1 hw.1 i 1 hi rfl (vp_in_nI hq (shp_sm hs)) hd ?_
  rw [nI_clamp hb]
  exact k1
theorem g_aald {j : Int32} (q : Nat) (hd : decode cc pc = .ok (.aaload, 1)) (hj : j = nI q) (hq : q < 4) (kk : Go X own cc nL d (pc + 1) lv (.ref (19 + 2 * q) :: st) h r h') : Go X own cc nL d pc lv (.int j :: .ref 18 :: st) h r h' := by
  subst hj
  intro ad D ca A p l e R s m args below meth c cells slots Q C F ls H locs hw hl
  have k1 := kk ad D ca A p l e R s m args below meth c cells slots Q C F ls H locs hw hl
  have hi : (wl ad ca h)[18]? = some (ad 18, .inl (ca 2, 4, .inr (.inr (.inr (.inr (fun j => some (ad (19 + 2 * j)))))))) := wl_at (s := .inr (2, 4, 0, 100)) rfl
  refine va_aldq C.1 C.2.1 C.2.2.2.2.2.1 hw.1 18 2 hi rfl (vp_in_nI hq (by decide)) hd ?_
  rw [nI_clamp (by omega)]
  exact k1
theorem arr_put {D : va_G} {ad : Nat → Nat} {ca : Nat → ClassId} {h : Hp} {H1 : Heap} {i t n g o q : Nat} {x : Int32} (ht : t ≠ 2) (hs : shp[i]? = some (.inr (t, n, g, o))) (hq : q < n) (w : va_P D vwCl ((wl ad ca h).set i (ad i, .inl (ca t, n, .inl (upd (fun j => h g (o + j)) q x)))) H1) : WP D ad ca (up h g (o + q) x) H1 := by
  refine WP.upd hs w (fun a => ?_) (fun g2 k2 b => ?_)
  · rw [cE_arr ht]
    have e : (fun j => up h g (o + q) x g (o + j)) = upd (fun j => h g (o + j)) q x := by
      funext j
      unfold upd
      by_cases e : j = q
      · rw [if_pos e, e, up_s]
      · rw [if_neg e, up_n]
        omega
    rw [e]
    exact a
  · exact up_n h x (fun ⟨e1, e2⟩ => b ⟨(g, o, n), by simp [occ, ht], e1.symm, by show o ≤ k2; omega, by show k2 < o + n; omega⟩)
theorem g_iast {i n g o : Nat} {j x : Int32} (q : Nat) (hd : decode cc pc = .ok (.iastore, 1)) (hs : shp[i]? = some (.inr (0, n, g, o))) (hj : j = nI q) (hq : q < n) (kk : Go X own cc nL d (pc + 1) lv st (up h g (o + q) x) r h') : Go X own cc nL d pc lv (.int x :: .int j :: .ref i :: st) h r h' := by
  subst hj
  intro ad D ca A p l e R s m args below meth c cells slots Q C F ls H locs hw hl
  have hb := Nat.lt_trans hq (shp_sm hs)
  have hi : (wl ad ca h)[i]? = some (ad i, .inl (ca 0, n, .inl (fun j => h g (o + j)))) := by rw [wl_at hs, cE_arr (by decide)]
  refine va_iast C.1 C.2.1 C.2.2.2.2.2.1 hw.1 (C.2.2.2.2.2.2.2.1.D ca h) hw.2 i 0 hi rfl (vp_in_nI hq (shp_sm hs)) hd (fun H1 locs1 a1 a2 a3 => ?_)
  rw [nI_clamp hb] at a1
  exact kk ad D ca A p l e R s m args below meth c cells slots Q C F ls H1 locs1 ⟨arr_put (by decide) hs hq a1, a3⟩ hl
theorem g_bast {i n g o : Nat} {j x : Int32} (q : Nat) (hd : decode cc pc = .ok (.bastore, 1)) (hs : shp[i]? = some (.inr (1, n, g, o))) (hj : j = nI q) (hq : q < n) (hx : x.toInt8.toInt32 = x) (kk : Go X own cc nL d (pc + 1) lv st (up h g (o + q) x) r h') : Go X own cc nL d pc lv (.int x :: .int j :: .ref i :: st) h r h' := by
  subst hj
  intro ad D ca A p l e R s m args below meth c cells slots Q C F ls H locs hw hl
  have hb := Nat.lt_trans hq (shp_sm hs)
  have hi : (wl ad ca h)[i]? = some (ad i, .inl (ca 1, n, .inl (fun j => h g (o + j)))) := by rw [wl_at hs, cE_arr (by decide)]
  refine va_bast C.1 C.2.1 C.2.2.2.2.2.1 hw.1 (C.2.2.2.2.2.2.2.1.D ca h) hw.2 i 1 hi rfl (vp_in_nI hq (shp_sm hs)) hd (fun H1 locs1 a1 a2 a3 => ?_)
  rw [nI_clamp hb, vp_nar_byte, hx] at a1
  exact kk ad D ca A p l e R s m args below meth c cells slots Q C F ls H1 locs1 ⟨arr_put (by decide) hs hq a1, a3⟩ hl
/-! what is only read -/
theorem g_gets {idx i : Nat} {C0 n : String} {l0 : List Int32} (hd : decode cc pc = .ok (.getstatic idx, 3)) (hr : ∀ (ad : Nat → Nat) (A : Nat → Prop) (U : State) (H : Heap), Ro X ad A U H → sArr C0 n l0 (ad i) A U H) (hk : Cond.fieldLink own idx C0 n "[I" ∈ gT) (kk : Go X own cc nL d (pc + 3) lv (.ref i :: st) h r h') : Go X own cc nL d pc lv st h r h' :=
  fun ad D ca A p l e R s m args below meth c cells slots Q C F ls H locs hw hl => va_gets C.1 C.2.1 (hr ad A s s.heap C.2.2.2.2.2.2.1).1 hw.2 C.2.2.2.1 (C.2.2.2.2.1 _ hk) (fun _ q => q) hd (kk ad D ca A p l e R s m args below meth c cells slots Q C F ls H locs hw hl)
theorem g_ildr {i : Nat} {C0 n : String} {l0 : List Int32} {j : Int32} (q : Nat) (hd : decode cc pc = .ok (.iaload, 1)) (hr : ∀ (ad : Nat → Nat) (A : Nat → Prop) (U : State) (H : Heap), Ro X ad A U H → sArr C0 n l0 (ad i) A U H) (hj : j = nI q) (hq : q < l0.length) (hn : l0.length < 2 ^ 31) (kk : Go X own cc nL d (pc + 1) lv (.int (l0.getD q 0) :: st) h r h') : Go X own cc nL d pc lv (.int j :: .ref i :: st) h r h' := by
  subst hj
  intro ad D ca A p l e R s m args below meth c cells slots Q C F ls H locs hw hl
  exact va_ti C.1 C.2.1 (hr ad A s s.heap C.2.2.2.2.2.2.1).2 hw.2 (vp_in_nI hq hn) (by rw [nI_clamp (Nat.lt_trans hq hn)]; rfl) hd (kk ad D ca A p l e R s m args below meth c cells slots Q C F ls H locs hw hl)
theorem g_sld {j : Int32} (q : Nat) (hd : decode cc pc = .ok (.iaload, 1)) (hj : j = nI q) (hq : q < X.2) (hn : X.2 < 2 ^ 31) (kk : Go X own cc nL d (pc + 1) lv (.int (X.1 q) :: st) h r h') : Go X own cc nL d pc lv (.int j :: .ref 104 :: st) h r h' := by
  subst hj
  intro ad D ca A p l e R s m args below meth c cells slots Q C F ls H locs hw hl
  obtain ⟨x1, x2, x3⟩ := C.2.2.2.2.2.2.1.2.2.2.2.1
  have k1 := kk ad D ca A p l e R s m args below meth c cells slots Q C F ls H locs hw hl
  refine va_sld C.1 C.2.1 x1 x2 x3 hw.2 (vp_in_nI hq hn) hd ?_
  rw [nI_clamp (Nat.lt_trans hq hn)]
  exact k1
theorem g_slen (hd : decode cc pc = .ok (.arraylength, 1)) (kk : Go X own cc nL d (pc + 1) lv (.int (nI X.2) :: st) h r h') : Go X own cc nL d pc lv (.ref 104 :: st) h r h' := by
  intro ad D ca A p l e R s m args below meth c cells slots Q C F ls H locs hw hl
  obtain ⟨x1, x2, x3⟩ := C.2.2.2.2.2.2.1.2.2.2.2.1
  exact va_slen C.1 C.2.1 x1 x2 x3 hw.2 hd (kk ad D ca A p l e R s m args below meth c cells slots Q C F ls H locs hw hl)
theorem ro0 (ad : Nat → Nat) (A : Nat → Prop) (U : State) (H : Heap) (q : Ro X ad A U H) : sArr "ForkInn$Inn" "KIND_ABOVE" kndAbove (ad 100) A U H := q.1
theorem ro1 (ad : Nat → Nat) (A : Nat → Prop) (U : State) (H : Heap) (q : Ro X ad A U H) : sArr "ForkInn$Inn" "DISH_TOPS" dshTops (ad 101) A U H := q.2.1
theorem ro2 (ad : Nat → Nat) (A : Nat → Prop) (U : State) (H : Heap) (q : Ro X ad A U H) : sArr "ForkInn$Inn" "GUEST_TOPS" gstTops (ad 102) A U H := q.2.2.1
theorem ro3 (ad : Nat → Nat) (A : Nat → Prop) (U : State) (H : Heap) (q : Ro X ad A U H) : sArr "ForkInnModel" "NAMES" nmes (ad 103) A U H := q.2.2.2.1
theorem g_ldcS {idx : Nat} (i : Nat) (hi : i < 13) (hd : decode cc pc = .ok (.ldc idx, 2)) (ho : own = "ForkInn$Tape") (hx : (txs.getD i ("", 0)).2 = idx) (kk : Go X own cc nL d (pc + 2) lv (.ref (110 + i) :: st) h r h') : Go X own cc nL d pc lv st h r h' := by
  subst hx; subst ho
  exact fun ad D ca A p l e R s m args below meth c cells slots Q C F ls H locs hw hl => va_ldcS C.1 C.2.1 C.2.2.2.1 (C.2.2.2.2.2.2.1.2.2.2.2.2.1 i hi) hd (kk ad D ca A p l e R s m args below meth c cells slots Q C F ls H locs hw hl)
end GO
end
section
/-! CALLS -/
def MI (y : MethodName) (cc : ByteArray) (nL : Nat) (ret : Option FieldType) (n : Nat) : Prop :=
  Cond.code y cc nL ret ∈ gT ∧ Cond.initialized y.cls ∈ gT ∧ plainName y.cls = true ∧ (y.cls ≠ "java/lang/invoke/MethodHandle" ∧ y.cls ≠ "java/lang/invoke/VarHandle") ∧ (parseMethodDescriptor y.desc).map (fun d => d.parameters.length) = some n ∧ nL ≤ 30
def MV (y : MethodName) : Prop := Cond.instanceMethod y ∈ gT ∧ Cond.selects y.cls y y ∈ gT
theorem lv0_args {ad : Nat → Nat} : ∀ (as : List Value) (j i : Nat) (v : Value), (lv0 as)[i]? = some v → nul v = false → (j + i, cv ad v) ∈ lv_args j (as.map (cv ad))
  | [], j, i, v, h, _ => by simp [lv0] at h
  | a :: r, j, i, v, h, hn => by
    have ih := fun (j i : Nat) (v : Value) => lv0_args (ad := ad) r j i v
    rw [List.map_cons]
    show _ ∈ (j, cv ad a) :: lv_args (if (cv ad a).category = 2 then j + 2 else j + 1) (r.map (cv ad))
    cases i with
    | zero =>
      have e : a = v := by cases a <;> simpa [lv0] using h
      rw [e]
      exact List.mem_cons_self
    | succ i =>
      refine List.mem_cons_of_mem _ ?_
      rw [cv_cat]
      by_cases hc : a.category = 2
      · rw [if_pos hc]
        have e : lv0 (a :: r) = a :: .null :: lv0 r := by
          cases a <;> first | rfl | (exact absurd hc (by simp [Value.category]))
        rw [e] at h
        cases i with
        | zero =>
          have e2 : Value.null = v := by simpa using h
          rw [← e2] at hn; cases hn
        | succ i =>
          have h1 := ih (j + 2) i v (by simpa using h) hn
          rw [show j + (i + 1 + 1) = j + 2 + i by omega]
          exact h1
      · rw [if_neg hc]
        have e : lv0 (a :: r) = a :: lv0 r := by
          cases a <;> first | rfl | (exact absurd rfl hc)
        rw [e] at h
        have h1 := ih (j + 1) i v (by simpa using h) hn
        rw [show j + (i + 1) = j + 1 + i by omega]
        exact h1
theorem LVS.entry {ad : Nat → Nat} {nL : Nat} {as : List Value} (hl : (lg_sl (as.map (cv ad))).length ≤ nL) : LVS ad ((lg_sl (as.map (cv ad)) ++ List.replicate (nL - (lg_sl (as.map (cv ad))).length) Slot.unset).toArray) nL (lvE nL as) := by
  obtain ⟨h1, h2, h3⟩ := lv_entry (as.map (cv ad)) hl
  refine ⟨h1, h2, fun i v hi hn => ?_⟩
  unfold lvE at hi
  by_cases hb : i < (lv0 as).length
  · rw [List.getElem?_append_left hb] at hi
    have := lv0_args (ad := ad) as 0 i v hi hn
    rw [Nat.zero_add] at this
    exact h3 _ this
  · rw [List.getElem?_append_right (Nat.le_of_not_lt hb)] at hi
    have := List.mem_of_getElem? hi
    rw [(List.mem_replicate.mp this).2] at hn
    cases hn
abbrev rmD (d : Nat) : Room := { frames := d, cells := 0, slots := 0, locals := 60 * d }
def PcD (X : Sc) (ad : Nat → Nat) (D : va_G) (ca : Nat → ClassId) (A : Nat → Prop) (as : List Value) (h : Hp) : Array Value → State → Prop := va_Pc (as.map (cv ad)) (fun U => WP D ad ca h U.heap ∧ va_K D vwCl (tysOf ca) U ∧ Ro X ad A U U.heap ∧ ∀ q : Nat, U.heap.size ≤ q → A q)
def QcD (ad : Nat → Nat) (D : va_G) (ca : Nat → ClassId) (A : Nat → Prop) (r : Option Value) (h' : Hp) : Array Value → State → Outcome → State → Prop := fun _ st oc t => oc = .returned (r.map (cv ad)) ∧ WP D ad ca h' t.heap ∧ va_F A st t
theorem Ct.met {X : Sc} {y : MethodName} {cc : ByteArray} {nL : Nat} {ret : Option FieldType} {d n : Nat} {as : List Value} {h : Hp} {r : Option Value} {h' : Hp} (hC : Ct X y cc nL ret d as h r h') (hM : MI y cc nL ret n) {ad : Nat → Nat} (hl : (lg_sl (as.map (cv ad))).length ≤ nL) (l : Launch) (D : va_G) (ca : Nat → ClassId) {A : Nat → Prop} (hap : apD A ad) :
    Met l y (.code y cc nL ret :: gT) (rmD d) (PcD X ad D ca A as h) (QcD ad D ca A r h') 0 0 A := by
  refine Met.ofW (cc := cc) (maxL := nL) (ret := ret) hM.2.2.1 rfl ?_
  intro p e s m args below meth c s₁ B hml hv
  obtain ⟨rfl, hP, hK, hRo, hA⟩ := hv
  have hts := atoms_spec (ws := .code y cc nL ret :: gT) B.pre
  have hlocks := B.notSynchronized
  have hx := B.exec
  have hb := B.bytes
  have hr := B.returns
  have Cxx : Cx X ad D ca A p (rmD d) s m ((as.map (cv ad)).toArray) c 0 0 y.cls cc nL d := ⟨B.exec, B.bytes, hml, findClass_of_methodNamed B.named, fun w hw => hts w (List.mem_cons_of_mem _ hw), hK, hRo, hap, hA, ⟨Nat.le_refl _, Nat.le_refl _⟩, Nat.zero_le _, Nat.zero_le _⟩
  rw [lg_entry_eq]
  refine hC.2 ad D ca A p l e (rmD d) s m _ below meth c 0 0 (MQ below (QcD ad D ca A r h') ((as.map (cv ad)).toArray) s 0 0 A) Cxx ?_ _ s.heap [] ⟨hP, va_S.rf⟩ (LVS.entry hl)
  intro pc' ls H locs hd hw
  have hq : ∀ t : State, t.heap = H → s.WarmedH t.vm → QcD ad D ca A r h' ((as.map (cv ad)).toArray) s (.returned (r.map (cv ad))) t := fun t ht _ => ⟨rfl, by rw [ht]; exact hw.1, hw.2.F ht⟩
  have hok := hC.1
  match ret, r, hok, hq, hd, hr with
  | none, none, _, hq, hd, hr => exact W.vret hx hb hr hq hw.2.2.2 hd
  | some ty, some (.int v), hok, hq, hd, hr => exact W.zret hx hb hr hok hq hw.2.2.2 hd
  | some .long, some (.long v), _, hq, hd, hr => exact W.lret hx hb hr hq hw.2.2.2 hd
  | some (.object nm), some (.ref a), _, hq, hd, hr => exact W.aret hx hb hr (Or.inl ⟨nm, rfl⟩) (Or.inr ⟨ad a, rfl⟩) hq hw.2.2.2 hd
theorem PcD.blind {X : Sc} {ad : Nat → Nat} {D : va_G} {ca : Nat → ClassId} {A : Nat → Prop} {as : List Value} {h : Hp} : FrameBlind (PcD X ad D ca A as h) := by
  intro a U g mk q
  obtain ⟨q0, qP, qK, qR, qA⟩ := q
  exact ⟨q0, qP, va_K.moved (u := U) (U := U.calling g mk a) (Vm.Alike.refl U.vm) qK, qR.call g mk a, qA⟩
section CALL
variable {X : Sc} {own : String} {cc : ByteArray} {nL d pc : Nat} {lv st : List Value} {h h' : Hp} {r : Option Value}
theorem run_go {ad : Nat → Nat} {D : va_G} {ca : Nat → ClassId} {A : Nat → Prop} {p : Program} {l : Launch} {e : Env} {R : Room} {s : State} {m : MethodId} {args : Array Value} {below : List Frame} {meth : Method} {c : Code} {cells slots : Nat} {Q : State → Prop} {H : Heap} {locs : List Loc} {ls : Array Slot} {st0 rest : List Value} {a : Array Value} {v : Option Value} {h1 : Hp}
    (hr : va_Run p l e R s m args below meth c H locs cells slots 0 0 (F0 m pc ls st0) rest (QcD ad D ca A v h1 a) A) (hS : va_S A s.heap H locs)
    (kk : ∀ (H1 : Heap) (locs1 : List Loc), Wd D ad ca h1 A s.heap H1 locs1 → W p l e R s m args below meth c H1 locs1 cells slots Q (F0 m (pc + 3) ls ((v.map (cv ad)).toList ++ rest))) : W p l e R s m args below meth c H locs cells slots Q (F0 m pc ls st0) := by
  intro T hT X0
  obtain ⟨v1, st₀, t, T', L, h0, X', hL, e1, e2, ⟨hv, hp, hz, hk⟩, st⟩ := hr T hT X0
  cases hv
  rw [h0] at hz hk
  obtain ⟨t2, a1, b1⟩ := kk T'.heap (locs ++ L) ⟨by rw [e1]; exact hp, Nat.le_trans hS.1 (by rw [e1]; exact hz), fun q h1 h2 => by rw [e1, hk q (Nat.lt_of_lt_of_le h1 hS.1) h2]; exact hS.2.1 q h1 h2, fun q hq => by
      rcases List.mem_append.mp hq with h | h
      · exact hS.2.2 q h
      · exact hL q h⟩ T' rfl X'
  exact ⟨t2, st t2 a1, b1⟩
theorem cb_of {ad : Nat → Nat} {D : va_G} {ca : Nat → ClassId} {A : Nat → Prop} {p : Program} {R : Room} {s : State} {m : MethodId} {args : Array Value} {c : Code} {cells slots : Nat} {y : MethodName} {cc2 : ByteArray} {nL2 d2 n idx : Nat} {ret : Option FieldType} (C : Cx X ad D ca A p R s m args c cells slots own cc nL d) (hM : MI y cc2 nL2 ret n) (hL : Cond.methodLink own idx y ∈ gT) (hdd : d2 + 1 ≤ d) : CallB R s args own idx y cc2 nL2 ret (.code y cc2 nL2 ret :: gT) (rmD d2) 0 0 n := by
  obtain ⟨-, -, -, -, hts, -, -, -, -, ⟨hf, hlo⟩, -, -⟩ := C
  obtain ⟨m1, m2, m3, m4, m5, m6⟩ := hM
  refine ⟨rfl, rfl, Nat.le_trans hdd hf, ?_, ?_, List.mem_cons_self, hts _ m1, hts _ m2, m4, ?_, hts _ hL⟩
  · show 8 + (nL2 + 11) + 60 * d2 ≤ R.locals
    omega
  · intro w hw a' U hW
    have hg : w ∈ gT := by
      rcases List.mem_cons.mp hw with rfl | q
      · exact m1
      · exact q
    exact word_at hW (gT_good w hg) (hts w hg)
  · intro sig q
    rw [q] at m5
    exact (Option.some.inj m5).symm
theorem cat_sum (ad : Nat → Nat) (st : List Value) : ((st.map (cv ad)).map fun v => v.category).sum = (st.map fun v => v.category).sum := by
  rw [List.map_map]
  congr 1
  exact List.map_congr_left (fun v _ => cv_cat ad v)
theorem sl_len (ad : Nat → Nat) : ∀ as : List Value, (lg_sl (as.map (cv ad))).length = (lg_sl as).length
  | [] => rfl
  | v :: r => by
    show (lg_sl (cv ad v :: r.map (cv ad))).length = (lg_sl (v :: r)).length
    unfold lg_sl
    rw [List.flatMap_cons, List.flatMap_cons, List.length_append, List.length_append, cv_cat]
    have := sl_len ad r
    unfold lg_sl at this
    rw [this]
    by_cases hc : v.category = 2
    · rw [if_pos hc, if_pos hc]; rfl
    · rw [if_neg hc, if_neg hc]; rfl
theorem pre_go {ad : Nat → Nat} {D : va_G} {ca : Nat → ClassId} {A : Nat → Prop} {p : Program} {R : Room} {s : State} {m : MethodId} {args : Array Value} {c : Code} {cells slots : Nat} {H : Heap} {locs : List Loc} {as : List Value} (C : Cx X ad D ca A p R s m args c cells slots own cc nL d) (hw : Wd D ad ca h A s.heap H locs) : ∀ U : State, U.heap = H → s.WarmedH U.vm → PcD X ad D ca A as h ((as.map (cv ad)).toArray) U := by
  intro U hU hW
  obtain ⟨-, -, -, -, -, hK, hR, -, hA, -⟩ := C
  exact ⟨rfl, by rw [hU]; exact hw.1, va_K.moved hW.alike hK, hR.go hw.2 hW hU, fun q hq => hA q (Nat.le_trans hw.2.1 (by rw [← hU]; exact hq))⟩
theorem g_callV {y : MethodName} {cc2 : ByteArray} {nL2 d2 n idx i ci : Nat} {ret : Option FieldType} {as st0 : List Value} {fs : List Zf} {v : Option Value} {h1 : Hp} (hC : Ct X y cc2 nL2 ret d2 (.ref i :: as) h v h1) (hM : MI y cc2 nL2 ret n) (hV : MV y) (hL : Cond.methodLink own idx y ∈ gT) (hd : decode cc pc = .ok (.invokevirtual idx, 3)) (hs : shp[i]? = some (.inl (ci, fs))) (hc : (vwCl[ci]?).map (fun q => q.1) = some y.cls) (hdd : d2 + 1 ≤ d) (hn : as.length = n) (hst : st0 = as.reverse ++ .ref i :: st) (hsl : (lg_sl (.ref i :: as)).length ≤ nL2) (hrm : (st.map fun v => v.category).sum ≤ 8)
    (k : Go X own cc nL d (pc + 3) lv (v.toList ++ st) h1 r h') : Go X own cc nL d pc lv st0 h r h' := by
  intro ad D ca A p l e R s m args below meth c cells slots Q C F ls H locs hw hl
  subst hst
  have hMet := hC.met hM (ad := ad) (by rw [sl_len]; exact hsl) l D ca C.2.2.2.2.2.2.2.1
  obtain ⟨q, hq, hq2⟩ := Option.map_eq_some_iff.mp hc
  have hrecv := va_recv (q := q) C.2.2.2.2.2.1 hw.1 (ci := ci) hq (q0 := i) (wl_at hs)
  rw [hq2] at hrecv
  refine run_go (v := v) (h1 := h1) (rest := st.map (cv ad)) (a := (Value.ref (ad i) :: as.map (cv ad)).toArray) (va_runV (As := as.map (cv ad)) (b := ad i) (C := y.cls) (n := n) ⟨C.1, C.2.1, C.2.2.1, C.2.2.2.1, C.2.2.2.2.1⟩ hMet ⟨cb_of C hM hL hdd, C.2.2.2.2.1 _ hV.1, C.2.2.2.2.1 _ hV.2⟩ ⟨PcD.blind, hrecv, pre_go C hw⟩ rfl (by rw [List.length_map]; exact hn) hl.1 ?_ (lv_room (by rw [cat_sum]; exact hrm)) hd ⟨C.2.2.2.2.2.2.2.2.2.2.1, C.2.2.2.2.2.2.2.2.2.2.2⟩) hw.2 (fun H1 locs1 hw1 => ?_)
  · show ((as.reverse ++ .ref i :: st).map (cv ad)) = _
    rw [List.map_append, List.map_reverse]
    rfl
  · have k1 := k ad D ca A p l e R s m args below meth c cells slots Q C F ls H1 locs1 hw1 hl
    rw [List.map_append] at k1
    cases v <;> exact k1
theorem g_callS {y : MethodName} {cc2 : ByteArray} {nL2 d2 n idx : Nat} {ret : Option FieldType} {as st0 : List Value} {v : Option Value} {h1 : Hp} (hC : Ct X y cc2 nL2 ret d2 as h v h1) (hM : MI y cc2 nL2 ret n) (hV : Cond.static y ∈ gT) (hL : Cond.methodLink own idx y ∈ gT) (hd : decode cc pc = .ok (.invokestatic idx, 3)) (hdd : d2 + 1 ≤ d) (hn : as.length = n) (hst : st0 = as.reverse ++ st) (hsl : (lg_sl as).length ≤ nL2) (hrm : (st.map fun v => v.category).sum ≤ 8)
    (k : Go X own cc nL d (pc + 3) lv (v.toList ++ st) h1 r h') : Go X own cc nL d pc lv st0 h r h' := by
  intro ad D ca A p l e R s m args below meth c cells slots Q C F ls H locs hw hl
  subst hst
  have hMet := hC.met hM (ad := ad) (by rw [sl_len]; exact hsl) l D ca C.2.2.2.2.2.2.2.1
  refine run_go (v := v) (h1 := h1) (rest := st.map (cv ad)) (a := (as.map (cv ad)).toArray) (va_runS (As := as.map (cv ad)) (n := n) ⟨C.1, C.2.1, C.2.2.1, C.2.2.2.1, C.2.2.2.2.1⟩ hMet ⟨cb_of C hM hL hdd, C.2.2.2.2.1 _ hV⟩ ⟨PcD.blind, pre_go C hw⟩ rfl (by rw [List.length_map]; exact hn) hl.1 ?_ (lv_room (by rw [cat_sum]; exact hrm)) hd ⟨C.2.2.2.2.2.2.2.2.2.2.1, C.2.2.2.2.2.2.2.2.2.2.2⟩) hw.2 (fun H1 locs1 hw1 => ?_)
  · show ((as.reverse ++ st).map (cv ad)) = _
    rw [List.map_append, List.map_reverse]
  · have k1 := k ad D ca A p l e R s m args below meth c cells slots Q C F ls H1 locs1 hw1 hl
    rw [List.map_append] at k1
    cases v <;> exact k1
theorem Ct.heq {X : Sc} {y : MethodName} {cc : ByteArray} {nL : Nat} {ret : Option FieldType} {d : Nat} {as : List Value} {h : Hp} {r : Option Value} {h1 h2 : Hp} (hC : Ct X y cc nL ret d as h r h1) (e : heq h1 h2) : Ct X y cc nL ret d as h r h2 :=
  ⟨hC.1, fun ad D ca A p l en R s m args below meth c cells slots Q C F ls H locs hw hl => hC.2 ad D ca A p l en R s m args below meth c cells slots Q C (fun pc' ls2 H2 locs2 hd hw2 => F pc' ls2 H2 locs2 hd ⟨hw2.1.heq e, hw2.2⟩) ls H locs hw hl⟩
theorem Ct.up {X : Sc} {y : MethodName} {cc : ByteArray} {nL : Nat} {ret : Option FieldType} {d d2 : Nat} {as : List Value} {h : Hp} {r : Option Value} {h1 : Hp} (hC : Ct X y cc nL ret d as h r h1) (hd : d ≤ d2) : Ct X y cc nL ret d2 as h r h1 :=
  ⟨hC.1, fun ad D ca A p l en R s m args below meth c cells slots Q C F ls H locs hw hl => by
    obtain ⟨c1, c2, c3, c4, c5, c6, c7, c8, c9, ⟨c10, c11⟩, c12, c13⟩ := C
    exact hC.2 ad D ca A p l en R s m args below meth c cells slots Q ⟨c1, c2, c3, c4, c5, c6, c7, c8, c9, ⟨Nat.le_trans hd c10, by omega⟩, c12, c13⟩ F ls H locs hw hl⟩
/-- Math.max, Math.min -/
theorem g_max {idx : Nat} {x y : Int32} (hd : decode cc pc = .ok (.invokestatic idx, 3)) (hL : Cond.methodLink own idx Lib.Math.max.name ∈ gT) (h1 : Cond.static Lib.Math.max.name ∈ gT) (h2 : Cond.initialized "java/lang/Math" ∈ gT) (h3 : Cond.code Lib.Math.max.name Lib.Math.max.code 2 (some .int) ∈ gT) (hdd : 1 ≤ d) (hrm : (st.map fun v => v.category).sum ≤ 8)
    (k : Go X own cc nL d (pc + 3) lv (.int (if x < y then y else x) :: st) h r h') : Go X own cc nL d pc lv (.int y :: .int x :: st) h r h' := by
  intro ad D ca A p l e R s m args below meth c cells slots Q C F ls H locs hw hl
  have k1 := k ad D ca A p l e R s m args below meth c cells slots Q C F ls H locs hw hl
  obtain ⟨c1, c2, c3, c4, c5, c6, c7, c8, c9, ⟨c10, c11⟩, c12, c13⟩ := C
  exact va_mmax c1 c2 (c3.trans hl.1.symm) c4 (c5 _ hL) (c5 _ h1) (c5 _ h2) (c5 _ h3) (Nat.le_trans hdd c10) (by rw [cat_sum]; omega) c12 c13 hd k1
theorem g_min {idx : Nat} {x y : Int32} (hd : decode cc pc = .ok (.invokestatic idx, 3)) (hL : Cond.methodLink own idx Lib.Math.min.name ∈ gT) (h1 : Cond.static Lib.Math.min.name ∈ gT) (h2 : Cond.initialized "java/lang/Math" ∈ gT) (h3 : Cond.code Lib.Math.min.name Lib.Math.min.code 2 (some .int) ∈ gT) (hdd : 1 ≤ d) (hrm : (st.map fun v => v.category).sum ≤ 8)
    (k : Go X own cc nL d (pc + 3) lv (.int (if y < x then y else x) :: st) h r h') : Go X own cc nL d pc lv (.int y :: .int x :: st) h r h' := by
  intro ad D ca A p l e R s m args below meth c cells slots Q C F ls H locs hw hl
  have k1 := k ad D ca A p l e R s m args below meth c cells slots Q C F ls H locs hw hl
  obtain ⟨c1, c2, c3, c4, c5, c6, c7, c8, c9, ⟨c10, c11⟩, c12, c13⟩ := C
  exact va_mmin c1 c2 (c3.trans hl.1.symm) c4 (c5 _ hL) (c5 _ h1) (c5 _ h2) (c5 _ h3) (Nat.le_trans hdd c10) (by rw [cat_sum]; omega) c12 c13 hd k1
/-- so many places of a group come to another one (as they all were) -/
def cpy (h : Hp) (gs so gd dO n : Nat) : Hp := fun a k => if a = gd ∧ dO ≤ k ∧ k < dO + n then h gs (so + (k - dO)) else h a k
theorem cpy_fn (h : Hp) (g0 o0 g1 o1 sp dp n : Nat) : (fun j => cpy h g0 (o0 + sp) g1 (o1 + dp) n g1 (o1 + j)) = va_cpy (fun j => h g0 (o0 + j)) (fun j => h g1 (o1 + j)) sp dp n := by
  funext j
  unfold cpy va_cpy
  by_cases hc : dp ≤ j ∧ j < dp + n
  · rw [if_pos ⟨rfl, by omega, by omega⟩, if_pos hc]
    show h g0 (o0 + sp + (o1 + j - (o1 + dp))) = h g0 (o0 + (sp + (j - dp)))
    rw [show o0 + sp + (o1 + j - (o1 + dp)) = o0 + (sp + (j - dp)) by omega]
  · rw [if_neg (by omega), if_neg hc]
theorem cpy_out (h : Hp) {g0 o0 g1 o1 sp dp n n1 g2 k2 : Nat} (h5 : dp + n ≤ n1) (b : ¬ inP (occ (.inr (0, n1, g1, o1))) g2 k2) : cpy h g0 (o0 + sp) g1 (o1 + dp) n g2 k2 = h g2 k2 := by
  unfold cpy
  rw [if_neg]
  rintro ⟨q1, q2, q3⟩
  exact b ⟨(g1, o1, n1), by simp [occ], q1.symm, by show o1 ≤ k2; omega, by show k2 < o1 + n1; omega⟩
theorem g_copy {idx i0 i1 n0 n1 g0 o0 g1 o1 : Nat} {js jd jn : Int32} (sp dp n : Nat) (hd : decode cc pc = .ok (.invokestatic idx, 3)) (hs0 : shp[i0]? = some (.inr (0, n0, g0, o0))) (hs1 : shp[i1]? = some (.inr (0, n1, g1, o1))) (ejs : js = nI sp) (ejd : jd = nI dp) (ejn : jn = nI n) (h4 : sp + n ≤ n0) (h5 : dp + n ≤ n1)
    (hL : Cond.methodLink own idx arraycopyName ∈ gT) (w1 : Cond.native arraycopyName ∈ gT) (w2 : Cond.static arraycopyName ∈ gT) (w3 : Cond.initialized "java/lang/System" ∈ gT) (hdd : 1 ≤ d) (hrm : (st.map fun v => v.category).sum ≤ 8)
    (k : Go X own cc nL d (pc + 3) lv st (cpy h g0 (o0 + sp) g1 (o1 + dp) n) r h') : Go X own cc nL d pc lv (.int jn :: .int jd :: .ref i1 :: .int js :: .ref i0 :: st) h r h' := by
  intro ad D ca A p l e R s m args below meth c cells slots Q C F ls H locs hw hl
  subst ejs; subst ejd; subst ejn
  have b0 := shp_sm hs0
  have b1 := shp_sm hs1
  have e1 : (nI sp).toNatClampNeg = sp := nI_clamp (by omega)
  have e2 : (nI dp).toNatClampNeg = dp := nI_clamp (by omega)
  have e3 : (nI n).toNatClampNeg = n := nI_clamp (by omega)
  have hi0 : (wl ad ca h)[i0]? = some (ad i0, .inl (ca 0, n0, .inl (fun j => h g0 (o0 + j)))) := by rw [wl_at hs0, cE_arr (by decide)]
  have hi1 : (wl ad ca h)[i1]? = some (ad i1, .inl (ca 0, n1, .inl (fun j => h g1 (o1 + j)))) := by rw [wl_at hs1, cE_arr (by decide)]
  have C0 := C
  obtain ⟨c1, c2, c3, c4, c5, c6, c7, c8, c9, ⟨c10, c11⟩, c12, c13⟩ := C
  have hnw : nativeFrameWords "java/lang/System" "arraycopy" 5 + 11 ≤ 50 := by decide +kernel
  refine va_copyi c1 c2 (c3.trans hl.1.symm) c4 (c5 _ hL) (c5 _ w1) (c5 _ w2) (c5 _ w3) c6 hw.1 (c8.D ca h) hw.2 i0 i1 0 0 hi0 hi1 rfl rfl rfl (nI_pos (by omega)) (nI_pos (by omega)) (nI_pos (by omega)) (by rw [e1, e3]; exact h4) (by rw [e2, e3]; exact h5) (fun i _ => rfl) (Nat.le_trans hdd c10) (by rw [cat_sum]; omega) hd (fun H1 locs1 a1 a2 a3 => ?_)
  rw [e1, e2, e3] at a1
  refine k ad D ca A p l e R s m args below meth c cells slots Q C0 F ls H1 locs1 ⟨WP.upd hs1 a1 (fun a => ?_) (fun g2 k2 b => ?_), a3⟩ hl
  · rw [cE_arr (by decide)]
    rw [cpy_fn]
    exact a
  · exact cpy_out h h5 b
end CALL
end
section
/-! WHICH WORDS ARE AMONG THE TABLES', by their places -/
set_option maxRecDepth 100000 in
theorem iuX0 : ∀ w ∈ u_ws RX0 TX0 8, w ∈ gT := by decide +kernel
set_option maxRecDepth 100000 in
theorem iuX1 : ∀ w ∈ u_ws RX1 TX1 3, w ∈ gT := by decide +kernel
set_option maxRecDepth 100000 in
theorem iuX2 : ∀ w ∈ u_ws RX2 TX2 6, w ∈ gT := by decide +kernel
set_option maxRecDepth 100000 in
theorem iuX3 : ∀ w ∈ u_ws RX3 TX3 7, w ∈ gT := by decide +kernel
set_option maxRecDepth 100000 in
theorem iuX4 : ∀ w ∈ u_ws RX4 TX4 15, w ∈ gT := by decide +kernel
theorem mi_X3_init : MI yX3_init cX3_init 2 none 0 := ⟨gT_in (List.mem_of_getElem? (i := 70) (by decide +kernel)) (by decide +kernel), gT_in (List.mem_of_getElem? (i := 54) (by decide +kernel)) (by decide +kernel), by decide +kernel, by decide +kernel, by decide +kernel, by decide⟩
theorem mi_X0_init : MI yX0_init cX0_init 2 none 0 := ⟨gT_in (List.mem_of_getElem? (i := 78) (by decide +kernel)) (by decide +kernel), gT_in (List.mem_of_getElem? (i := 55) (by decide +kernel)) (by decide +kernel), by decide +kernel, by decide +kernel, by decide +kernel, by decide⟩
theorem mi_X2_init : MI yX2_init cX2_init 1 none 0 := ⟨gT_in (List.mem_of_getElem? (i := 118) (by decide +kernel)) (by decide +kernel), gT_in (List.mem_of_getElem? (i := 56) (by decide +kernel)) (by decide +kernel), by decide +kernel, by decide +kernel, by decide +kernel, by decide⟩
theorem mi_X1_init : MI yX1_init cX1_init 1 none 0 := ⟨gT_in (List.mem_of_getElem? (i := 146) (by decide +kernel)) (by decide +kernel), gT_in (List.mem_of_getElem? (i := 57) (by decide +kernel)) (by decide +kernel), by decide +kernel, by decide +kernel, by decide +kernel, by decide⟩
theorem mi_X3_list : MI yX3_list cX3_list 5 (some .int) 3 := ⟨gT_in (List.mem_of_getElem? (i := 186) (by decide +kernel)) (by decide +kernel), gT_in (List.mem_of_getElem? (i := 54) (by decide +kernel)) (by decide +kernel), by decide +kernel, by decide +kernel, by decide +kernel, by decide⟩
theorem mv_X3_list : MV yX3_list := ⟨gT_in (List.mem_of_getElem? (i := 184) (by decide +kernel)) (by decide +kernel), gT_in (List.mem_of_getElem? (i := 185) (by decide +kernel)) (by decide +kernel)⟩
theorem mi_X3_isPlace : MI yX3_isPlace cX3_isPlace 1 (some .boolean) 1 := ⟨gT_in (List.mem_of_getElem? (i := 189) (by decide +kernel)) (by decide +kernel), gT_in (List.mem_of_getElem? (i := 54) (by decide +kernel)) (by decide +kernel), by decide +kernel, by decide +kernel, by decide +kernel, by decide⟩
theorem ms_X3_isPlace : Cond.static yX3_isPlace ∈ gT := gT_in (List.mem_of_getElem? (i := 188) (by decide +kernel)) (by decide +kernel)
theorem mi_X3_within : MI yX3_within cX3_within 3 (some .boolean) 3 := ⟨gT_in (List.mem_of_getElem? (i := 192) (by decide +kernel)) (by decide +kernel), gT_in (List.mem_of_getElem? (i := 54) (by decide +kernel)) (by decide +kernel), by decide +kernel, by decide +kernel, by decide +kernel, by decide⟩
theorem ms_X3_within : Cond.static yX3_within ∈ gT := gT_in (List.mem_of_getElem? (i := 191) (by decide +kernel)) (by decide +kernel)
theorem mi_X3_found : MI yX3_found cX3_found 3 (some .int) 1 := ⟨gT_in (List.mem_of_getElem? (i := 197) (by decide +kernel)) (by decide +kernel), gT_in (List.mem_of_getElem? (i := 54) (by decide +kernel)) (by decide +kernel), by decide +kernel, by decide +kernel, by decide +kernel, by decide⟩
theorem mv_X3_found : MV yX3_found := ⟨gT_in (List.mem_of_getElem? (i := 196) (by decide +kernel)) (by decide +kernel), gT_in (List.mem_of_getElem? (i := 0) (by decide +kernel)) (by decide +kernel)⟩
theorem mi_X0_planMeal : MI yX0_planMeal cX0_planMeal 4 none 3 := ⟨gT_in (List.mem_of_getElem? (i := 201) (by decide +kernel)) (by decide +kernel), gT_in (List.mem_of_getElem? (i := 55) (by decide +kernel)) (by decide +kernel), by decide +kernel, by decide +kernel, by decide +kernel, by decide⟩
theorem mv_X0_planMeal : MV yX0_planMeal := ⟨gT_in (List.mem_of_getElem? (i := 199) (by decide +kernel)) (by decide +kernel), gT_in (List.mem_of_getElem? (i := 200) (by decide +kernel)) (by decide +kernel)⟩
theorem mi_X3_listed : MI yX3_listed cX3_listed 2 (some .int) 1 := ⟨gT_in (List.mem_of_getElem? (i := 205) (by decide +kernel)) (by decide +kernel), gT_in (List.mem_of_getElem? (i := 54) (by decide +kernel)) (by decide +kernel), by decide +kernel, by decide +kernel, by decide +kernel, by decide⟩
theorem mv_X3_listed : MV yX3_listed := ⟨gT_in (List.mem_of_getElem? (i := 203) (by decide +kernel)) (by decide +kernel), gT_in (List.mem_of_getElem? (i := 204) (by decide +kernel)) (by decide +kernel)⟩
theorem mi_X3_dish : MI yX3_dish cX3_dish 4 (some .int) 3 := ⟨gT_in (List.mem_of_getElem? (i := 209) (by decide +kernel)) (by decide +kernel), gT_in (List.mem_of_getElem? (i := 54) (by decide +kernel)) (by decide +kernel), by decide +kernel, by decide +kernel, by decide +kernel, by decide⟩
theorem mv_X3_dish : MV yX3_dish := ⟨gT_in (List.mem_of_getElem? (i := 207) (by decide +kernel)) (by decide +kernel), gT_in (List.mem_of_getElem? (i := 208) (by decide +kernel)) (by decide +kernel)⟩
theorem mi_X3_isKind : MI yX3_isKind cX3_isKind 1 (some .boolean) 1 := ⟨gT_in (List.mem_of_getElem? (i := 212) (by decide +kernel)) (by decide +kernel), gT_in (List.mem_of_getElem? (i := 54) (by decide +kernel)) (by decide +kernel), by decide +kernel, by decide +kernel, by decide +kernel, by decide⟩
theorem ms_X3_isKind : Cond.static yX3_isKind ∈ gT := gT_in (List.mem_of_getElem? (i := 211) (by decide +kernel)) (by decide +kernel)
theorem mi_X3_isTown : MI yX3_isTown cX3_isTown 1 (some .boolean) 1 := ⟨gT_in (List.mem_of_getElem? (i := 215) (by decide +kernel)) (by decide +kernel), gT_in (List.mem_of_getElem? (i := 54) (by decide +kernel)) (by decide +kernel), by decide +kernel, by decide +kernel, by decide +kernel, by decide⟩
theorem ms_X3_isTown : Cond.static yX3_isTown ∈ gT := gT_in (List.mem_of_getElem? (i := 214) (by decide +kernel)) (by decide +kernel)
theorem mi_X0_addDish : MI yX0_addDish cX0_addDish 5 (some .int) 3 := ⟨gT_in (List.mem_of_getElem? (i := 220) (by decide +kernel)) (by decide +kernel), gT_in (List.mem_of_getElem? (i := 55) (by decide +kernel)) (by decide +kernel), by decide +kernel, by decide +kernel, by decide +kernel, by decide⟩
theorem mv_X0_addDish : MV yX0_addDish := ⟨gT_in (List.mem_of_getElem? (i := 218) (by decide +kernel)) (by decide +kernel), gT_in (List.mem_of_getElem? (i := 219) (by decide +kernel)) (by decide +kernel)⟩
theorem mi_X0_putDishFact : MI yX0_putDishFact cX0_putDishFact 4 none 3 := ⟨gT_in (List.mem_of_getElem? (i := 224) (by decide +kernel)) (by decide +kernel), gT_in (List.mem_of_getElem? (i := 55) (by decide +kernel)) (by decide +kernel), by decide +kernel, by decide +kernel, by decide +kernel, by decide⟩
theorem mv_X0_putDishFact : MV yX0_putDishFact := ⟨gT_in (List.mem_of_getElem? (i := 222) (by decide +kernel)) (by decide +kernel), gT_in (List.mem_of_getElem? (i := 223) (by decide +kernel)) (by decide +kernel)⟩
theorem mi_X3_guest : MI yX3_guest cX3_guest 2 (some .int) 1 := ⟨gT_in (List.mem_of_getElem? (i := 228) (by decide +kernel)) (by decide +kernel), gT_in (List.mem_of_getElem? (i := 54) (by decide +kernel)) (by decide +kernel), by decide +kernel, by decide +kernel, by decide +kernel, by decide⟩
theorem mv_X3_guest : MV yX3_guest := ⟨gT_in (List.mem_of_getElem? (i := 226) (by decide +kernel)) (by decide +kernel), gT_in (List.mem_of_getElem? (i := 227) (by decide +kernel)) (by decide +kernel)⟩
theorem mi_X3_isBent : MI yX3_isBent cX3_isBent 1 (some .boolean) 1 := ⟨gT_in (List.mem_of_getElem? (i := 231) (by decide +kernel)) (by decide +kernel), gT_in (List.mem_of_getElem? (i := 54) (by decide +kernel)) (by decide +kernel), by decide +kernel, by decide +kernel, by decide +kernel, by decide⟩
theorem ms_X3_isBent : Cond.static yX3_isBent ∈ gT := gT_in (List.mem_of_getElem? (i := 230) (by decide +kernel)) (by decide +kernel)
theorem mi_X0_addGuest : MI yX0_addGuest cX0_addGuest 3 (some .int) 1 := ⟨gT_in (List.mem_of_getElem? (i := 235) (by decide +kernel)) (by decide +kernel), gT_in (List.mem_of_getElem? (i := 55) (by decide +kernel)) (by decide +kernel), by decide +kernel, by decide +kernel, by decide +kernel, by decide⟩
theorem mv_X0_addGuest : MV yX0_addGuest := ⟨gT_in (List.mem_of_getElem? (i := 233) (by decide +kernel)) (by decide +kernel), gT_in (List.mem_of_getElem? (i := 234) (by decide +kernel)) (by decide +kernel)⟩
theorem mi_X0_putGuestFact : MI yX0_putGuestFact cX0_putGuestFact 4 none 3 := ⟨gT_in (List.mem_of_getElem? (i := 239) (by decide +kernel)) (by decide +kernel), gT_in (List.mem_of_getElem? (i := 55) (by decide +kernel)) (by decide +kernel), by decide +kernel, by decide +kernel, by decide +kernel, by decide⟩
theorem mv_X0_putGuestFact : MV yX0_putGuestFact := ⟨gT_in (List.mem_of_getElem? (i := 237) (by decide +kernel)) (by decide +kernel), gT_in (List.mem_of_getElem? (i := 238) (by decide +kernel)) (by decide +kernel)⟩
theorem mi_X3_of : MI yX3_of cX3_of 3 (some .int) 2 := ⟨gT_in (List.mem_of_getElem? (i := 243) (by decide +kernel)) (by decide +kernel), gT_in (List.mem_of_getElem? (i := 54) (by decide +kernel)) (by decide +kernel), by decide +kernel, by decide +kernel, by decide +kernel, by decide⟩
theorem mv_X3_of : MV yX3_of := ⟨gT_in (List.mem_of_getElem? (i := 241) (by decide +kernel)) (by decide +kernel), gT_in (List.mem_of_getElem? (i := 242) (by decide +kernel)) (by decide +kernel)⟩
theorem mi_X0_isDish : MI yX0_isDish cX0_isDish 2 (some .boolean) 1 := ⟨gT_in (List.mem_of_getElem? (i := 247) (by decide +kernel)) (by decide +kernel), gT_in (List.mem_of_getElem? (i := 55) (by decide +kernel)) (by decide +kernel), by decide +kernel, by decide +kernel, by decide +kernel, by decide⟩
theorem mv_X0_isDish : MV yX0_isDish := ⟨gT_in (List.mem_of_getElem? (i := 245) (by decide +kernel)) (by decide +kernel), gT_in (List.mem_of_getElem? (i := 246) (by decide +kernel)) (by decide +kernel)⟩
theorem mi_X0_dishFact : MI yX0_dishFact cX0_dishFact 3 (some .int) 2 := ⟨gT_in (List.mem_of_getElem? (i := 251) (by decide +kernel)) (by decide +kernel), gT_in (List.mem_of_getElem? (i := 55) (by decide +kernel)) (by decide +kernel), by decide +kernel, by decide +kernel, by decide +kernel, by decide⟩
theorem mv_X0_dishFact : MV yX0_dishFact := ⟨gT_in (List.mem_of_getElem? (i := 249) (by decide +kernel)) (by decide +kernel), gT_in (List.mem_of_getElem? (i := 250) (by decide +kernel)) (by decide +kernel)⟩
theorem mi_X3_change : MI yX3_change cX3_change 5 (some .int) 3 := ⟨gT_in (List.mem_of_getElem? (i := 255) (by decide +kernel)) (by decide +kernel), gT_in (List.mem_of_getElem? (i := 54) (by decide +kernel)) (by decide +kernel), by decide +kernel, by decide +kernel, by decide +kernel, by decide⟩
theorem mv_X3_change : MV yX3_change := ⟨gT_in (List.mem_of_getElem? (i := 253) (by decide +kernel)) (by decide +kernel), gT_in (List.mem_of_getElem? (i := 254) (by decide +kernel)) (by decide +kernel)⟩
theorem mi_X3_ofGuest : MI yX3_ofGuest cX3_ofGuest 3 (some .int) 2 := ⟨gT_in (List.mem_of_getElem? (i := 262) (by decide +kernel)) (by decide +kernel), gT_in (List.mem_of_getElem? (i := 54) (by decide +kernel)) (by decide +kernel), by decide +kernel, by decide +kernel, by decide +kernel, by decide⟩
theorem mv_X3_ofGuest : MV yX3_ofGuest := ⟨gT_in (List.mem_of_getElem? (i := 260) (by decide +kernel)) (by decide +kernel), gT_in (List.mem_of_getElem? (i := 261) (by decide +kernel)) (by decide +kernel)⟩
theorem mi_X0_isGuest : MI yX0_isGuest cX0_isGuest 2 (some .boolean) 1 := ⟨gT_in (List.mem_of_getElem? (i := 266) (by decide +kernel)) (by decide +kernel), gT_in (List.mem_of_getElem? (i := 55) (by decide +kernel)) (by decide +kernel), by decide +kernel, by decide +kernel, by decide +kernel, by decide⟩
theorem mv_X0_isGuest : MV yX0_isGuest := ⟨gT_in (List.mem_of_getElem? (i := 264) (by decide +kernel)) (by decide +kernel), gT_in (List.mem_of_getElem? (i := 265) (by decide +kernel)) (by decide +kernel)⟩
theorem mi_X3_isGuestFact : MI yX3_isGuestFact cX3_isGuestFact 1 (some .boolean) 1 := ⟨gT_in (List.mem_of_getElem? (i := 269) (by decide +kernel)) (by decide +kernel), gT_in (List.mem_of_getElem? (i := 54) (by decide +kernel)) (by decide +kernel), by decide +kernel, by decide +kernel, by decide +kernel, by decide⟩
theorem ms_X3_isGuestFact : Cond.static yX3_isGuestFact ∈ gT := gT_in (List.mem_of_getElem? (i := 268) (by decide +kernel)) (by decide +kernel)
theorem mi_X0_guestFact : MI yX0_guestFact cX0_guestFact 3 (some .int) 2 := ⟨gT_in (List.mem_of_getElem? (i := 273) (by decide +kernel)) (by decide +kernel), gT_in (List.mem_of_getElem? (i := 55) (by decide +kernel)) (by decide +kernel), by decide +kernel, by decide +kernel, by decide +kernel, by decide⟩
theorem mv_X0_guestFact : MV yX0_guestFact := ⟨gT_in (List.mem_of_getElem? (i := 271) (by decide +kernel)) (by decide +kernel), gT_in (List.mem_of_getElem? (i := 272) (by decide +kernel)) (by decide +kernel)⟩
theorem mi_X3_seat : MI yX3_seat cX3_seat 5 (some .int) 3 := ⟨gT_in (List.mem_of_getElem? (i := 277) (by decide +kernel)) (by decide +kernel), gT_in (List.mem_of_getElem? (i := 54) (by decide +kernel)) (by decide +kernel), by decide +kernel, by decide +kernel, by decide +kernel, by decide⟩
theorem mv_X3_seat : MV yX3_seat := ⟨gT_in (List.mem_of_getElem? (i := 275) (by decide +kernel)) (by decide +kernel), gT_in (List.mem_of_getElem? (i := 276) (by decide +kernel)) (by decide +kernel)⟩
theorem mi_X3_would : MI yX3_would cX3_would 5 (some .int) 3 := ⟨gT_in (List.mem_of_getElem? (i := 284) (by decide +kernel)) (by decide +kernel), gT_in (List.mem_of_getElem? (i := 54) (by decide +kernel)) (by decide +kernel), by decide +kernel, by decide +kernel, by decide +kernel, by decide⟩
theorem mv_X3_would : MV yX3_would := ⟨gT_in (List.mem_of_getElem? (i := 282) (by decide +kernel)) (by decide +kernel), gT_in (List.mem_of_getElem? (i := 283) (by decide +kernel)) (by decide +kernel)⟩
theorem mi_X0_takesLeft : MI yX0_takesLeft cX0_takesLeft 6 (some .boolean) 2 := ⟨gT_in (List.mem_of_getElem? (i := 288) (by decide +kernel)) (by decide +kernel), gT_in (List.mem_of_getElem? (i := 55) (by decide +kernel)) (by decide +kernel), by decide +kernel, by decide +kernel, by decide +kernel, by decide⟩
theorem mv_X0_takesLeft : MV yX0_takesLeft := ⟨gT_in (List.mem_of_getElem? (i := 286) (by decide +kernel)) (by decide +kernel), gT_in (List.mem_of_getElem? (i := 287) (by decide +kernel)) (by decide +kernel)⟩
theorem mi_X0_anotherIsFor : MI yX0_anotherIsFor cX0_anotherIsFor 4 (some .boolean) 2 := ⟨gT_in (List.mem_of_getElem? (i := 294) (by decide +kernel)) (by decide +kernel), gT_in (List.mem_of_getElem? (i := 55) (by decide +kernel)) (by decide +kernel), by decide +kernel, by decide +kernel, by decide +kernel, by decide⟩
theorem mv_X0_anotherIsFor : MV yX0_anotherIsFor := ⟨gT_in (List.mem_of_getElem? (i := 292) (by decide +kernel)) (by decide +kernel), gT_in (List.mem_of_getElem? (i := 293) (by decide +kernel)) (by decide +kernel)⟩
theorem mi_X0_costOf : MI yX0_costOf cX0_costOf 6 (some .int) 3 := ⟨gT_in (List.mem_of_getElem? (i := 298) (by decide +kernel)) (by decide +kernel), gT_in (List.mem_of_getElem? (i := 55) (by decide +kernel)) (by decide +kernel), by decide +kernel, by decide +kernel, by decide +kernel, by decide⟩
theorem mv_X0_costOf : MV yX0_costOf := ⟨gT_in (List.mem_of_getElem? (i := 296) (by decide +kernel)) (by decide +kernel), gT_in (List.mem_of_getElem? (i := 297) (by decide +kernel)) (by decide +kernel)⟩
theorem mm_maxS : Cond.static Lib.Math.max.name ∈ gT := gT_in (List.mem_of_getElem? (i := 300) (by decide +kernel)) (by decide +kernel)
theorem mm_maxC : Cond.code Lib.Math.max.name Lib.Math.max.code 2 (some .int) ∈ gT := gT_in (List.mem_of_getElem? (i := 301) (by decide +kernel)) (by decide +kernel)
theorem mi_X0_bendOf : MI yX0_bendOf cX0_bendOf 3 (some .int) 2 := ⟨gT_in (List.mem_of_getElem? (i := 304) (by decide +kernel)) (by decide +kernel), gT_in (List.mem_of_getElem? (i := 55) (by decide +kernel)) (by decide +kernel), by decide +kernel, by decide +kernel, by decide +kernel, by decide⟩
theorem ms_X0_bendOf : Cond.static yX0_bendOf ∈ gT := gT_in (List.mem_of_getElem? (i := 303) (by decide +kernel)) (by decide +kernel)
theorem mi_X0_townOf : MI yX0_townOf cX0_townOf 3 (some .int) 2 := ⟨gT_in (List.mem_of_getElem? (i := 308) (by decide +kernel)) (by decide +kernel), gT_in (List.mem_of_getElem? (i := 55) (by decide +kernel)) (by decide +kernel), by decide +kernel, by decide +kernel, by decide +kernel, by decide⟩
theorem mv_X0_townOf : MV yX0_townOf := ⟨gT_in (List.mem_of_getElem? (i := 306) (by decide +kernel)) (by decide +kernel), gT_in (List.mem_of_getElem? (i := 307) (by decide +kernel)) (by decide +kernel)⟩
theorem mi_X3_eat : MI yX3_eat cX3_eat 3 (some .int) 2 := ⟨gT_in (List.mem_of_getElem? (i := 312) (by decide +kernel)) (by decide +kernel), gT_in (List.mem_of_getElem? (i := 54) (by decide +kernel)) (by decide +kernel), by decide +kernel, by decide +kernel, by decide +kernel, by decide⟩
theorem mv_X3_eat : MV yX3_eat := ⟨gT_in (List.mem_of_getElem? (i := 310) (by decide +kernel)) (by decide +kernel), gT_in (List.mem_of_getElem? (i := 311) (by decide +kernel)) (by decide +kernel)⟩
theorem mi_X0_isOff : MI yX0_isOff cX0_isOff 2 (some .boolean) 1 := ⟨gT_in (List.mem_of_getElem? (i := 316) (by decide +kernel)) (by decide +kernel), gT_in (List.mem_of_getElem? (i := 55) (by decide +kernel)) (by decide +kernel), by decide +kernel, by decide +kernel, by decide +kernel, by decide⟩
theorem mv_X0_isOff : MV yX0_isOff := ⟨gT_in (List.mem_of_getElem? (i := 314) (by decide +kernel)) (by decide +kernel), gT_in (List.mem_of_getElem? (i := 315) (by decide +kernel)) (by decide +kernel)⟩
theorem mi_X0_haveMeal : MI yX0_haveMeal cX0_haveMeal 6 none 2 := ⟨gT_in (List.mem_of_getElem? (i := 321) (by decide +kernel)) (by decide +kernel), gT_in (List.mem_of_getElem? (i := 55) (by decide +kernel)) (by decide +kernel), by decide +kernel, by decide +kernel, by decide +kernel, by decide⟩
theorem mv_X0_haveMeal : MV yX0_haveMeal := ⟨gT_in (List.mem_of_getElem? (i := 319) (by decide +kernel)) (by decide +kernel), gT_in (List.mem_of_getElem? (i := 320) (by decide +kernel)) (by decide +kernel)⟩
theorem mm_minS : Cond.static Lib.Math.min.name ∈ gT := gT_in (List.mem_of_getElem? (i := 327) (by decide +kernel)) (by decide +kernel)
theorem mm_minC : Cond.code Lib.Math.min.name Lib.Math.min.code 2 (some .int) ∈ gT := gT_in (List.mem_of_getElem? (i := 328) (by decide +kernel)) (by decide +kernel)
theorem mi_X0_bendGuest : MI yX0_bendGuest cX0_bendGuest 4 none 2 := ⟨gT_in (List.mem_of_getElem? (i := 333) (by decide +kernel)) (by decide +kernel), gT_in (List.mem_of_getElem? (i := 55) (by decide +kernel)) (by decide +kernel), by decide +kernel, by decide +kernel, by decide +kernel, by decide⟩
theorem mv_X0_bendGuest : MV yX0_bendGuest := ⟨gT_in (List.mem_of_getElem? (i := 331) (by decide +kernel)) (by decide +kernel), gT_in (List.mem_of_getElem? (i := 332) (by decide +kernel)) (by decide +kernel)⟩
theorem mi_X0_serveOnce : MI yX0_serveOnce cX0_serveOnce 2 none 1 := ⟨gT_in (List.mem_of_getElem? (i := 337) (by decide +kernel)) (by decide +kernel), gT_in (List.mem_of_getElem? (i := 55) (by decide +kernel)) (by decide +kernel), by decide +kernel, by decide +kernel, by decide +kernel, by decide⟩
theorem mv_X0_serveOnce : MV yX0_serveOnce := ⟨gT_in (List.mem_of_getElem? (i := 335) (by decide +kernel)) (by decide +kernel), gT_in (List.mem_of_getElem? (i := 336) (by decide +kernel)) (by decide +kernel)⟩
theorem mi_X3_go : MI yX3_go cX3_go 2 (some .int) 1 := ⟨gT_in (List.mem_of_getElem? (i := 341) (by decide +kernel)) (by decide +kernel), gT_in (List.mem_of_getElem? (i := 54) (by decide +kernel)) (by decide +kernel), by decide +kernel, by decide +kernel, by decide +kernel, by decide⟩
theorem mv_X3_go : MV yX3_go := ⟨gT_in (List.mem_of_getElem? (i := 339) (by decide +kernel)) (by decide +kernel), gT_in (List.mem_of_getElem? (i := 340) (by decide +kernel)) (by decide +kernel)⟩
theorem mi_X0_passDays : MI yX0_passDays cX0_passDays 3 none 1 := ⟨gT_in (List.mem_of_getElem? (i := 346) (by decide +kernel)) (by decide +kernel), gT_in (List.mem_of_getElem? (i := 55) (by decide +kernel)) (by decide +kernel), by decide +kernel, by decide +kernel, by decide +kernel, by decide⟩
theorem mv_X0_passDays : MV yX0_passDays := ⟨gT_in (List.mem_of_getElem? (i := 344) (by decide +kernel)) (by decide +kernel), gT_in (List.mem_of_getElem? (i := 345) (by decide +kernel)) (by decide +kernel)⟩
theorem mi_X0_passDay : MI yX0_passDay cX0_passDay 4 none 0 := ⟨gT_in (List.mem_of_getElem? (i := 350) (by decide +kernel)) (by decide +kernel), gT_in (List.mem_of_getElem? (i := 55) (by decide +kernel)) (by decide +kernel), by decide +kernel, by decide +kernel, by decide +kernel, by decide⟩
theorem mv_X0_passDay : MV yX0_passDay := ⟨gT_in (List.mem_of_getElem? (i := 348) (by decide +kernel)) (by decide +kernel), gT_in (List.mem_of_getElem? (i := 349) (by decide +kernel)) (by decide +kernel)⟩
theorem mi_X0_guestOfMeal : MI yX0_guestOfMeal cX0_guestOfMeal 1 (some .int) 1 := ⟨gT_in (List.mem_of_getElem? (i := 353) (by decide +kernel)) (by decide +kernel), gT_in (List.mem_of_getElem? (i := 55) (by decide +kernel)) (by decide +kernel), by decide +kernel, by decide +kernel, by decide +kernel, by decide⟩
theorem ms_X0_guestOfMeal : Cond.static yX0_guestOfMeal ∈ gT := gT_in (List.mem_of_getElem? (i := 352) (by decide +kernel)) (by decide +kernel)
theorem mi_X0_dishOfMeal : MI yX0_dishOfMeal cX0_dishOfMeal 1 (some .int) 1 := ⟨gT_in (List.mem_of_getElem? (i := 356) (by decide +kernel)) (by decide +kernel), gT_in (List.mem_of_getElem? (i := 55) (by decide +kernel)) (by decide +kernel), by decide +kernel, by decide +kernel, by decide +kernel, by decide⟩
theorem ms_X0_dishOfMeal : Cond.static yX0_dishOfMeal ∈ gT := gT_in (List.mem_of_getElem? (i := 355) (by decide +kernel)) (by decide +kernel)
theorem mi_X0_billSum : MI yX0_billSum cX0_billSum 3 (some .int) 0 := ⟨gT_in (List.mem_of_getElem? (i := 364) (by decide +kernel)) (by decide +kernel), gT_in (List.mem_of_getElem? (i := 55) (by decide +kernel)) (by decide +kernel), by decide +kernel, by decide +kernel, by decide +kernel, by decide⟩
theorem mv_X0_billSum : MV yX0_billSum := ⟨gT_in (List.mem_of_getElem? (i := 362) (by decide +kernel)) (by decide +kernel), gT_in (List.mem_of_getElem? (i := 363) (by decide +kernel)) (by decide +kernel)⟩
theorem mi_X3_now : MI yX3_now cX3_now 2 (some .int) 1 := ⟨gT_in (List.mem_of_getElem? (i := 368) (by decide +kernel)) (by decide +kernel), gT_in (List.mem_of_getElem? (i := 54) (by decide +kernel)) (by decide +kernel), by decide +kernel, by decide +kernel, by decide +kernel, by decide⟩
theorem mv_X3_now : MV yX3_now := ⟨gT_in (List.mem_of_getElem? (i := 366) (by decide +kernel)) (by decide +kernel), gT_in (List.mem_of_getElem? (i := 367) (by decide +kernel)) (by decide +kernel)⟩
theorem mi_X0_townsAimedAt : MI yX0_townsAimedAt cX0_townsAimedAt 3 (some .int) 0 := ⟨gT_in (List.mem_of_getElem? (i := 372) (by decide +kernel)) (by decide +kernel), gT_in (List.mem_of_getElem? (i := 55) (by decide +kernel)) (by decide +kernel), by decide +kernel, by decide +kernel, by decide +kernel, by decide⟩
theorem mv_X0_townsAimedAt : MV yX0_townsAimedAt := ⟨gT_in (List.mem_of_getElem? (i := 370) (by decide +kernel)) (by decide +kernel), gT_in (List.mem_of_getElem? (i := 371) (by decide +kernel)) (by decide +kernel)⟩
theorem mi_X0_townsBeenIn : MI yX0_townsBeenIn cX0_townsBeenIn 3 (some .int) 0 := ⟨gT_in (List.mem_of_getElem? (i := 376) (by decide +kernel)) (by decide +kernel), gT_in (List.mem_of_getElem? (i := 55) (by decide +kernel)) (by decide +kernel), by decide +kernel, by decide +kernel, by decide +kernel, by decide⟩
theorem mv_X0_townsBeenIn : MV yX0_townsBeenIn := ⟨gT_in (List.mem_of_getElem? (i := 374) (by decide +kernel)) (by decide +kernel), gT_in (List.mem_of_getElem? (i := 375) (by decide +kernel)) (by decide +kernel)⟩
theorem mi_X0_servedSum : MI yX0_servedSum cX0_servedSum 3 (some .int) 0 := ⟨gT_in (List.mem_of_getElem? (i := 380) (by decide +kernel)) (by decide +kernel), gT_in (List.mem_of_getElem? (i := 55) (by decide +kernel)) (by decide +kernel), by decide +kernel, by decide +kernel, by decide +kernel, by decide⟩
theorem mv_X0_servedSum : MV yX0_servedSum := ⟨gT_in (List.mem_of_getElem? (i := 378) (by decide +kernel)) (by decide +kernel), gT_in (List.mem_of_getElem? (i := 379) (by decide +kernel)) (by decide +kernel)⟩
theorem mi_X0_partedPairs : MI yX0_partedPairs cX0_partedPairs 4 (some .int) 0 := ⟨gT_in (List.mem_of_getElem? (i := 384) (by decide +kernel)) (by decide +kernel), gT_in (List.mem_of_getElem? (i := 55) (by decide +kernel)) (by decide +kernel), by decide +kernel, by decide +kernel, by decide +kernel, by decide⟩
theorem mv_X0_partedPairs : MV yX0_partedPairs := ⟨gT_in (List.mem_of_getElem? (i := 382) (by decide +kernel)) (by decide +kernel), gT_in (List.mem_of_getElem? (i := 383) (by decide +kernel)) (by decide +kernel)⟩
theorem mi_X0_dishesOnCard : MI yX0_dishesOnCard cX0_dishesOnCard 3 (some .int) 0 := ⟨gT_in (List.mem_of_getElem? (i := 388) (by decide +kernel)) (by decide +kernel), gT_in (List.mem_of_getElem? (i := 55) (by decide +kernel)) (by decide +kernel), by decide +kernel, by decide +kernel, by decide +kernel, by decide⟩
theorem mv_X0_dishesOnCard : MV yX0_dishesOnCard := ⟨gT_in (List.mem_of_getElem? (i := 386) (by decide +kernel)) (by decide +kernel), gT_in (List.mem_of_getElem? (i := 387) (by decide +kernel)) (by decide +kernel)⟩
theorem mi_X0_deepestInDebt : MI yX0_deepestInDebt cX0_deepestInDebt 4 (some .int) 0 := ⟨gT_in (List.mem_of_getElem? (i := 392) (by decide +kernel)) (by decide +kernel), gT_in (List.mem_of_getElem? (i := 55) (by decide +kernel)) (by decide +kernel), by decide +kernel, by decide +kernel, by decide +kernel, by decide⟩
theorem mv_X0_deepestInDebt : MV yX0_deepestInDebt := ⟨gT_in (List.mem_of_getElem? (i := 390) (by decide +kernel)) (by decide +kernel), gT_in (List.mem_of_getElem? (i := 391) (by decide +kernel)) (by decide +kernel)⟩
theorem mi_X3_ahead : MI yX3_ahead cX3_ahead 4 (some .int) 3 := ⟨gT_in (List.mem_of_getElem? (i := 396) (by decide +kernel)) (by decide +kernel), gT_in (List.mem_of_getElem? (i := 54) (by decide +kernel)) (by decide +kernel), by decide +kernel, by decide +kernel, by decide +kernel, by decide⟩
theorem mv_X3_ahead : MV yX3_ahead := ⟨gT_in (List.mem_of_getElem? (i := 394) (by decide +kernel)) (by decide +kernel), gT_in (List.mem_of_getElem? (i := 395) (by decide +kernel)) (by decide +kernel)⟩
theorem mi_X0_become : MI yX0_become cX0_become 2 none 1 := ⟨gT_in (List.mem_of_getElem? (i := 400) (by decide +kernel)) (by decide +kernel), gT_in (List.mem_of_getElem? (i := 55) (by decide +kernel)) (by decide +kernel), by decide +kernel, by decide +kernel, by decide +kernel, by decide⟩
theorem mv_X0_become : MV yX0_become := ⟨gT_in (List.mem_of_getElem? (i := 398) (by decide +kernel)) (by decide +kernel), gT_in (List.mem_of_getElem? (i := 399) (by decide +kernel)) (by decide +kernel)⟩
theorem acN : Cond.native arraycopyName ∈ gT := gT_in (List.mem_of_getElem? (i := 403) (by decide +kernel)) (by decide +kernel)
theorem acS : Cond.static arraycopyName ∈ gT := gT_in (List.mem_of_getElem? (i := 402) (by decide +kernel)) (by decide +kernel)
theorem acI : Cond.initialized "java/lang/System" ∈ gT := gT_in (List.mem_of_getElem? (i := 60) (by decide +kernel)) (by decide +kernel)
theorem mi_X3_served : MI yX3_served cX3_served 3 (some .int) 2 := ⟨gT_in (List.mem_of_getElem? (i := 407) (by decide +kernel)) (by decide +kernel), gT_in (List.mem_of_getElem? (i := 54) (by decide +kernel)) (by decide +kernel), by decide +kernel, by decide +kernel, by decide +kernel, by decide⟩
theorem mv_X3_served : MV yX3_served := ⟨gT_in (List.mem_of_getElem? (i := 405) (by decide +kernel)) (by decide +kernel), gT_in (List.mem_of_getElem? (i := 406) (by decide +kernel)) (by decide +kernel)⟩
theorem mi_X3_when : MI yX3_when cX3_when 4 (some .int) 2 := ⟨gT_in (List.mem_of_getElem? (i := 411) (by decide +kernel)) (by decide +kernel), gT_in (List.mem_of_getElem? (i := 54) (by decide +kernel)) (by decide +kernel), by decide +kernel, by decide +kernel, by decide +kernel, by decide⟩
theorem mv_X3_when : MV yX3_when := ⟨gT_in (List.mem_of_getElem? (i := 409) (by decide +kernel)) (by decide +kernel), gT_in (List.mem_of_getElem? (i := 410) (by decide +kernel)) (by decide +kernel)⟩
theorem mi_X3_owes : MI yX3_owes cX3_owes 4 (some .int) 2 := ⟨gT_in (List.mem_of_getElem? (i := 417) (by decide +kernel)) (by decide +kernel), gT_in (List.mem_of_getElem? (i := 54) (by decide +kernel)) (by decide +kernel), by decide +kernel, by decide +kernel, by decide +kernel, by decide⟩
theorem mv_X3_owes : MV yX3_owes := ⟨gT_in (List.mem_of_getElem? (i := 415) (by decide +kernel)) (by decide +kernel), gT_in (List.mem_of_getElem? (i := 416) (by decide +kernel)) (by decide +kernel)⟩
theorem mi_X3_part : MI yX3_part cX3_part 4 (some .int) 2 := ⟨gT_in (List.mem_of_getElem? (i := 421) (by decide +kernel)) (by decide +kernel), gT_in (List.mem_of_getElem? (i := 54) (by decide +kernel)) (by decide +kernel), by decide +kernel, by decide +kernel, by decide +kernel, by decide⟩
theorem mv_X3_part : MV yX3_part := ⟨gT_in (List.mem_of_getElem? (i := 419) (by decide +kernel)) (by decide +kernel), gT_in (List.mem_of_getElem? (i := 420) (by decide +kernel)) (by decide +kernel)⟩
theorem mi_X3_dishFor : MI yX3_dishFor cX3_dishFor 8 (some .int) 2 := ⟨gT_in (List.mem_of_getElem? (i := 425) (by decide +kernel)) (by decide +kernel), gT_in (List.mem_of_getElem? (i := 54) (by decide +kernel)) (by decide +kernel), by decide +kernel, by decide +kernel, by decide +kernel, by decide⟩
theorem mv_X3_dishFor : MV yX3_dishFor := ⟨gT_in (List.mem_of_getElem? (i := 423) (by decide +kernel)) (by decide +kernel), gT_in (List.mem_of_getElem? (i := 424) (by decide +kernel)) (by decide +kernel)⟩
theorem mi_X3_kindFor : MI yX3_kindFor cX3_kindFor 7 (some .int) 2 := ⟨gT_in (List.mem_of_getElem? (i := 431) (by decide +kernel)) (by decide +kernel), gT_in (List.mem_of_getElem? (i := 54) (by decide +kernel)) (by decide +kernel), by decide +kernel, by decide +kernel, by decide +kernel, by decide⟩
theorem mv_X3_kindFor : MV yX3_kindFor := ⟨gT_in (List.mem_of_getElem? (i := 429) (by decide +kernel)) (by decide +kernel), gT_in (List.mem_of_getElem? (i := 430) (by decide +kernel)) (by decide +kernel)⟩
theorem mi_X3_bentFor : MI yX3_bentFor cX3_bentFor 5 (some .int) 3 := ⟨gT_in (List.mem_of_getElem? (i := 435) (by decide +kernel)) (by decide +kernel), gT_in (List.mem_of_getElem? (i := 54) (by decide +kernel)) (by decide +kernel), by decide +kernel, by decide +kernel, by decide +kernel, by decide⟩
theorem mv_X3_bentFor : MV yX3_bentFor := ⟨gT_in (List.mem_of_getElem? (i := 433) (by decide +kernel)) (by decide +kernel), gT_in (List.mem_of_getElem? (i := 434) (by decide +kernel)) (by decide +kernel)⟩
theorem mi_X3_courses : MI yX3_courses cX3_courses 4 (some .int) 2 := ⟨gT_in (List.mem_of_getElem? (i := 439) (by decide +kernel)) (by decide +kernel), gT_in (List.mem_of_getElem? (i := 54) (by decide +kernel)) (by decide +kernel), by decide +kernel, by decide +kernel, by decide +kernel, by decide⟩
theorem mv_X3_courses : MV yX3_courses := ⟨gT_in (List.mem_of_getElem? (i := 437) (by decide +kernel)) (by decide +kernel), gT_in (List.mem_of_getElem? (i := 438) (by decide +kernel)) (by decide +kernel)⟩
theorem mi_X3_leadsTo : MI yX3_leadsTo cX3_leadsTo 5 (some .boolean) 3 := ⟨gT_in (List.mem_of_getElem? (i := 443) (by decide +kernel)) (by decide +kernel), gT_in (List.mem_of_getElem? (i := 54) (by decide +kernel)) (by decide +kernel), by decide +kernel, by decide +kernel, by decide +kernel, by decide⟩
theorem mv_X3_leadsTo : MV yX3_leadsTo := ⟨gT_in (List.mem_of_getElem? (i := 442) (by decide +kernel)) (by decide +kernel), gT_in (List.mem_of_getElem? (i := 1) (by decide +kernel)) (by decide +kernel)⟩
theorem mi_X3_leadsToBy : MI yX3_leadsToBy cX3_leadsToBy 9 (some .boolean) 4 := ⟨gT_in (List.mem_of_getElem? (i := 447) (by decide +kernel)) (by decide +kernel), gT_in (List.mem_of_getElem? (i := 54) (by decide +kernel)) (by decide +kernel), by decide +kernel, by decide +kernel, by decide +kernel, by decide⟩
theorem mv_X3_leadsToBy : MV yX3_leadsToBy := ⟨gT_in (List.mem_of_getElem? (i := 446) (by decide +kernel)) (by decide +kernel), gT_in (List.mem_of_getElem? (i := 2) (by decide +kernel)) (by decide +kernel)⟩
theorem mi_X3_strike : MI yX3_strike cX3_strike 7 (some .int) 3 := ⟨gT_in (List.mem_of_getElem? (i := 453) (by decide +kernel)) (by decide +kernel), gT_in (List.mem_of_getElem? (i := 54) (by decide +kernel)) (by decide +kernel), by decide +kernel, by decide +kernel, by decide +kernel, by decide⟩
theorem mv_X3_strike : MV yX3_strike := ⟨gT_in (List.mem_of_getElem? (i := 451) (by decide +kernel)) (by decide +kernel), gT_in (List.mem_of_getElem? (i := 452) (by decide +kernel)) (by decide +kernel)⟩
theorem mi_J6_bitCount_0f7a4 : MI yJ6_bitCount_0f7a4 cJ6_bitCount_0f7a4 1 (some .int) 1 := ⟨gT_in (List.mem_of_getElem? (i := 456) (by decide +kernel)) (by decide +kernel), gT_in (List.mem_of_getElem? (i := 61) (by decide +kernel)) (by decide +kernel), by decide +kernel, by decide +kernel, by decide +kernel, by decide⟩
theorem ms_J6_bitCount_0f7a4 : Cond.static yJ6_bitCount_0f7a4 ∈ gT := gT_in (List.mem_of_getElem? (i := 455) (by decide +kernel)) (by decide +kernel)
theorem mi_X3_keepsAway : MI yX3_keepsAway cX3_keepsAway 6 (some .boolean) 4 := ⟨gT_in (List.mem_of_getElem? (i := 463) (by decide +kernel)) (by decide +kernel), gT_in (List.mem_of_getElem? (i := 54) (by decide +kernel)) (by decide +kernel), by decide +kernel, by decide +kernel, by decide +kernel, by decide⟩
theorem mv_X3_keepsAway : MV yX3_keepsAway := ⟨gT_in (List.mem_of_getElem? (i := 462) (by decide +kernel)) (by decide +kernel), gT_in (List.mem_of_getElem? (i := 3) (by decide +kernel)) (by decide +kernel)⟩
theorem mi_X3_fits : MI yX3_fits cX3_fits 6 (some .int) 2 := ⟨gT_in (List.mem_of_getElem? (i := 467) (by decide +kernel)) (by decide +kernel), gT_in (List.mem_of_getElem? (i := 54) (by decide +kernel)) (by decide +kernel), by decide +kernel, by decide +kernel, by decide +kernel, by decide⟩
theorem mv_X3_fits : MV yX3_fits := ⟨gT_in (List.mem_of_getElem? (i := 465) (by decide +kernel)) (by decide +kernel), gT_in (List.mem_of_getElem? (i := 466) (by decide +kernel)) (by decide +kernel)⟩
theorem mi_X3_sheetTrouble : MI yX3_sheetTrouble cX3_sheetTrouble 2 (some .int) 1 := ⟨gT_in (List.mem_of_getElem? (i := 471) (by decide +kernel)) (by decide +kernel), gT_in (List.mem_of_getElem? (i := 54) (by decide +kernel)) (by decide +kernel), by decide +kernel, by decide +kernel, by decide +kernel, by decide⟩
theorem mv_X3_sheetTrouble : MV yX3_sheetTrouble := ⟨gT_in (List.mem_of_getElem? (i := 470) (by decide +kernel)) (by decide +kernel), gT_in (List.mem_of_getElem? (i := 4) (by decide +kernel)) (by decide +kernel)⟩
theorem mi_X3_isSheet : MI yX3_isSheet cX3_isSheet 1 (some .boolean) 1 := ⟨gT_in (List.mem_of_getElem? (i := 474) (by decide +kernel)) (by decide +kernel), gT_in (List.mem_of_getElem? (i := 54) (by decide +kernel)) (by decide +kernel), by decide +kernel, by decide +kernel, by decide +kernel, by decide⟩
theorem ms_X3_isSheet : Cond.static yX3_isSheet ∈ gT := gT_in (List.mem_of_getElem? (i := 473) (by decide +kernel)) (by decide +kernel)
theorem mi_X1_isMissing : MI yX1_isMissing cX1_isMissing 1 (some .boolean) 0 := ⟨gT_in (List.mem_of_getElem? (i := 478) (by decide +kernel)) (by decide +kernel), gT_in (List.mem_of_getElem? (i := 57) (by decide +kernel)) (by decide +kernel), by decide +kernel, by decide +kernel, by decide +kernel, by decide⟩
theorem mv_X1_isMissing : MV yX1_isMissing := ⟨gT_in (List.mem_of_getElem? (i := 476) (by decide +kernel)) (by decide +kernel), gT_in (List.mem_of_getElem? (i := 477) (by decide +kernel)) (by decide +kernel)⟩
theorem mi_X3_goesAsTold : MI yX3_goesAsTold cX3_goesAsTold 5 (some .boolean) 2 := ⟨gT_in (List.mem_of_getElem? (i := 483) (by decide +kernel)) (by decide +kernel), gT_in (List.mem_of_getElem? (i := 54) (by decide +kernel)) (by decide +kernel), by decide +kernel, by decide +kernel, by decide +kernel, by decide⟩
theorem mv_X3_goesAsTold : MV yX3_goesAsTold := ⟨gT_in (List.mem_of_getElem? (i := 482) (by decide +kernel)) (by decide +kernel), gT_in (List.mem_of_getElem? (i := 5) (by decide +kernel)) (by decide +kernel)⟩
theorem mi_X3_kinds : MI yX3_kinds cX3_kinds 7 (some .int) 3 := ⟨gT_in (List.mem_of_getElem? (i := 487) (by decide +kernel)) (by decide +kernel), gT_in (List.mem_of_getElem? (i := 54) (by decide +kernel)) (by decide +kernel), by decide +kernel, by decide +kernel, by decide +kernel, by decide⟩
theorem mv_X3_kinds : MV yX3_kinds := ⟨gT_in (List.mem_of_getElem? (i := 485) (by decide +kernel)) (by decide +kernel), gT_in (List.mem_of_getElem? (i := 486) (by decide +kernel)) (by decide +kernel)⟩
theorem mi_X3_coach : MI yX3_coach cX3_coach 5 (some .int) 1 := ⟨gT_in (List.mem_of_getElem? (i := 491) (by decide +kernel)) (by decide +kernel), gT_in (List.mem_of_getElem? (i := 54) (by decide +kernel)) (by decide +kernel), by decide +kernel, by decide +kernel, by decide +kernel, by decide⟩
theorem mv_X3_coach : MV yX3_coach := ⟨gT_in (List.mem_of_getElem? (i := 489) (by decide +kernel)) (by decide +kernel), gT_in (List.mem_of_getElem? (i := 490) (by decide +kernel)) (by decide +kernel)⟩
theorem mi_X0_drawNumber : MI yX0_drawNumber cX0_drawNumber 1 (some .int) 0 := ⟨gT_in (List.mem_of_getElem? (i := 495) (by decide +kernel)) (by decide +kernel), gT_in (List.mem_of_getElem? (i := 55) (by decide +kernel)) (by decide +kernel), by decide +kernel, by decide +kernel, by decide +kernel, by decide⟩
theorem mv_X0_drawNumber : MV yX0_drawNumber := ⟨gT_in (List.mem_of_getElem? (i := 493) (by decide +kernel)) (by decide +kernel), gT_in (List.mem_of_getElem? (i := 494) (by decide +kernel)) (by decide +kernel)⟩
theorem mi_X3_odds : MI yX3_odds cX3_odds 7 (some .long) 4 := ⟨gT_in (List.mem_of_getElem? (i := 500) (by decide +kernel)) (by decide +kernel), gT_in (List.mem_of_getElem? (i := 54) (by decide +kernel)) (by decide +kernel), by decide +kernel, by decide +kernel, by decide +kernel, by decide⟩
theorem mv_X3_odds : MV yX3_odds := ⟨gT_in (List.mem_of_getElem? (i := 498) (by decide +kernel)) (by decide +kernel), gT_in (List.mem_of_getElem? (i := 499) (by decide +kernel)) (by decide +kernel)⟩
theorem mi_X3_sharedWithAllBents : MI yX3_sharedWithAllBents cX3_sharedWithAllBents 2 (some .int) 1 := ⟨gT_in (List.mem_of_getElem? (i := 503) (by decide +kernel)) (by decide +kernel), gT_in (List.mem_of_getElem? (i := 54) (by decide +kernel)) (by decide +kernel), by decide +kernel, by decide +kernel, by decide +kernel, by decide⟩
theorem ms_X3_sharedWithAllBents : Cond.static yX3_sharedWithAllBents ∈ gT := gT_in (List.mem_of_getElem? (i := 502) (by decide +kernel)) (by decide +kernel)
theorem mi_X3_power : MI yX3_power cX3_power 5 (some .long) 2 := ⟨gT_in (List.mem_of_getElem? (i := 506) (by decide +kernel)) (by decide +kernel), gT_in (List.mem_of_getElem? (i := 54) (by decide +kernel)) (by decide +kernel), by decide +kernel, by decide +kernel, by decide +kernel, by decide⟩
theorem ms_X3_power : Cond.static yX3_power ∈ gT := gT_in (List.mem_of_getElem? (i := 505) (by decide +kernel)) (by decide +kernel)
theorem mi_X3_seed : MI yX3_seed cX3_seed 3 (some .int) 1 := ⟨gT_in (List.mem_of_getElem? (i := 510) (by decide +kernel)) (by decide +kernel), gT_in (List.mem_of_getElem? (i := 54) (by decide +kernel)) (by decide +kernel), by decide +kernel, by decide +kernel, by decide +kernel, by decide⟩
theorem mv_X3_seed : MV yX3_seed := ⟨gT_in (List.mem_of_getElem? (i := 508) (by decide +kernel)) (by decide +kernel), gT_in (List.mem_of_getElem? (i := 509) (by decide +kernel)) (by decide +kernel)⟩
theorem mi_X3_feed : MI yX3_feed cX3_feed 4 (some .int) 2 := ⟨gT_in (List.mem_of_getElem? (i := 514) (by decide +kernel)) (by decide +kernel), gT_in (List.mem_of_getElem? (i := 54) (by decide +kernel)) (by decide +kernel), by decide +kernel, by decide +kernel, by decide +kernel, by decide⟩
theorem mv_X3_feed : MV yX3_feed := ⟨gT_in (List.mem_of_getElem? (i := 512) (by decide +kernel)) (by decide +kernel), gT_in (List.mem_of_getElem? (i := 513) (by decide +kernel)) (by decide +kernel)⟩
theorem mi_X2_addByte : MI yX2_addByte cX2_addByte 2 none 1 := ⟨gT_in (List.mem_of_getElem? (i := 518) (by decide +kernel)) (by decide +kernel), gT_in (List.mem_of_getElem? (i := 56) (by decide +kernel)) (by decide +kernel), by decide +kernel, by decide +kernel, by decide +kernel, by decide⟩
theorem mv_X2_addByte : MV yX2_addByte := ⟨gT_in (List.mem_of_getElem? (i := 516) (by decide +kernel)) (by decide +kernel), gT_in (List.mem_of_getElem? (i := 517) (by decide +kernel)) (by decide +kernel)⟩
theorem mi_X3_wipe : MI yX3_wipe cX3_wipe 2 (some .int) 0 := ⟨gT_in (List.mem_of_getElem? (i := 522) (by decide +kernel)) (by decide +kernel), gT_in (List.mem_of_getElem? (i := 54) (by decide +kernel)) (by decide +kernel), by decide +kernel, by decide +kernel, by decide +kernel, by decide⟩
theorem mv_X3_wipe : MV yX3_wipe := ⟨gT_in (List.mem_of_getElem? (i := 520) (by decide +kernel)) (by decide +kernel), gT_in (List.mem_of_getElem? (i := 521) (by decide +kernel)) (by decide +kernel)⟩
theorem mi_X3_text : MI yX3_text cX3_text 2 (some .int) 0 := ⟨gT_in (List.mem_of_getElem? (i := 526) (by decide +kernel)) (by decide +kernel), gT_in (List.mem_of_getElem? (i := 54) (by decide +kernel)) (by decide +kernel), by decide +kernel, by decide +kernel, by decide +kernel, by decide⟩
theorem mv_X3_text : MV yX3_text := ⟨gT_in (List.mem_of_getElem? (i := 524) (by decide +kernel)) (by decide +kernel), gT_in (List.mem_of_getElem? (i := 525) (by decide +kernel)) (by decide +kernel)⟩
theorem mi_X2_readText : MI yX2_readText cX2_readText 3 (some .int) 1 := ⟨gT_in (List.mem_of_getElem? (i := 530) (by decide +kernel)) (by decide +kernel), gT_in (List.mem_of_getElem? (i := 56) (by decide +kernel)) (by decide +kernel), by decide +kernel, by decide +kernel, by decide +kernel, by decide⟩
theorem mv_X2_readText : MV yX2_readText := ⟨gT_in (List.mem_of_getElem? (i := 528) (by decide +kernel)) (by decide +kernel), gT_in (List.mem_of_getElem? (i := 529) (by decide +kernel)) (by decide +kernel)⟩
theorem mi_X2_nextToken : MI yX2_nextToken cX2_nextToken 1 none 0 := ⟨gT_in (List.mem_of_getElem? (i := 534) (by decide +kernel)) (by decide +kernel), gT_in (List.mem_of_getElem? (i := 56) (by decide +kernel)) (by decide +kernel), by decide +kernel, by decide +kernel, by decide +kernel, by decide⟩
theorem mv_X2_nextToken : MV yX2_nextToken := ⟨gT_in (List.mem_of_getElem? (i := 532) (by decide +kernel)) (by decide +kernel), gT_in (List.mem_of_getElem? (i := 533) (by decide +kernel)) (by decide +kernel)⟩
theorem mi_X2_tokenBegunBy : MI yX2_tokenBegunBy cX2_tokenBegunBy 1 (some .int) 1 := ⟨gT_in (List.mem_of_getElem? (i := 537) (by decide +kernel)) (by decide +kernel), gT_in (List.mem_of_getElem? (i := 56) (by decide +kernel)) (by decide +kernel), by decide +kernel, by decide +kernel, by decide +kernel, by decide⟩
theorem ms_X2_tokenBegunBy : Cond.static yX2_tokenBegunBy ∈ gT := gT_in (List.mem_of_getElem? (i := 536) (by decide +kernel)) (by decide +kernel)
theorem mi_X2_readItem : MI yX2_readItem cX2_readItem 3 (some .boolean) 1 := ⟨gT_in (List.mem_of_getElem? (i := 541) (by decide +kernel)) (by decide +kernel), gT_in (List.mem_of_getElem? (i := 56) (by decide +kernel)) (by decide +kernel), by decide +kernel, by decide +kernel, by decide +kernel, by decide⟩
theorem mv_X2_readItem : MV yX2_readItem := ⟨gT_in (List.mem_of_getElem? (i := 539) (by decide +kernel)) (by decide +kernel), gT_in (List.mem_of_getElem? (i := 540) (by decide +kernel)) (by decide +kernel)⟩
theorem mi_X2_isWord : MI yX2_isWord cX2_isWord 3 (some .boolean) 1 := ⟨gT_in (List.mem_of_getElem? (i := 546) (by decide +kernel)) (by decide +kernel), gT_in (List.mem_of_getElem? (i := 56) (by decide +kernel)) (by decide +kernel), by decide +kernel, by decide +kernel, by decide +kernel, by decide⟩
theorem mv_X2_isWord : MV yX2_isWord := ⟨gT_in (List.mem_of_getElem? (i := 544) (by decide +kernel)) (by decide +kernel), gT_in (List.mem_of_getElem? (i := 545) (by decide +kernel)) (by decide +kernel)⟩
theorem mi_J0_length_8abf5 : MI yJ0_length_8abf5 cJ0_length_8abf5 1 (some .int) 0 := ⟨gT_in (List.mem_of_getElem? (i := 550) (by decide +kernel)) (by decide +kernel), gT_in (List.mem_of_getElem? (i := 62) (by decide +kernel)) (by decide +kernel), by decide +kernel, by decide +kernel, by decide +kernel, by decide⟩
theorem mv_J0_length_8abf5 : MV yJ0_length_8abf5 := ⟨gT_in (List.mem_of_getElem? (i := 548) (by decide +kernel)) (by decide +kernel), gT_in (List.mem_of_getElem? (i := 549) (by decide +kernel)) (by decide +kernel)⟩
theorem mi_J0_coder_7d493 : MI yJ0_coder_7d493 cJ0_coder_7d493 1 (some .byte) 0 := ⟨gT_in (List.mem_of_getElem? (i := 554) (by decide +kernel)) (by decide +kernel), gT_in (List.mem_of_getElem? (i := 62) (by decide +kernel)) (by decide +kernel), by decide +kernel, by decide +kernel, by decide +kernel, by decide⟩
theorem mv_J0_coder_7d493 : MV yJ0_coder_7d493 := ⟨gT_in (List.mem_of_getElem? (i := 552) (by decide +kernel)) (by decide +kernel), gT_in (List.mem_of_getElem? (i := 553) (by decide +kernel)) (by decide +kernel)⟩
theorem mi_J0_charAt_5068e : MI yJ0_charAt_5068e cJ0_charAt_5068e 2 (some .char) 1 := ⟨gT_in (List.mem_of_getElem? (i := 560) (by decide +kernel)) (by decide +kernel), gT_in (List.mem_of_getElem? (i := 62) (by decide +kernel)) (by decide +kernel), by decide +kernel, by decide +kernel, by decide +kernel, by decide⟩
theorem mv_J0_charAt_5068e : MV yJ0_charAt_5068e := ⟨gT_in (List.mem_of_getElem? (i := 558) (by decide +kernel)) (by decide +kernel), gT_in (List.mem_of_getElem? (i := 559) (by decide +kernel)) (by decide +kernel)⟩
theorem mi_J0_isLatin1_aae02 : MI yJ0_isLatin1_aae02 cJ0_isLatin1_aae02 1 (some .boolean) 0 := ⟨gT_in (List.mem_of_getElem? (i := 564) (by decide +kernel)) (by decide +kernel), gT_in (List.mem_of_getElem? (i := 62) (by decide +kernel)) (by decide +kernel), by decide +kernel, by decide +kernel, by decide +kernel, by decide⟩
theorem mv_J0_isLatin1_aae02 : MV yJ0_isLatin1_aae02 := ⟨gT_in (List.mem_of_getElem? (i := 562) (by decide +kernel)) (by decide +kernel), gT_in (List.mem_of_getElem? (i := 563) (by decide +kernel)) (by decide +kernel)⟩
theorem mi_J1_charAt_3b067 : MI yJ1_charAt_3b067 cJ1_charAt_3b067 2 (some .char) 2 := ⟨gT_in (List.mem_of_getElem? (i := 567) (by decide +kernel)) (by decide +kernel), gT_in (List.mem_of_getElem? (i := 63) (by decide +kernel)) (by decide +kernel), by decide +kernel, by decide +kernel, by decide +kernel, by decide⟩
theorem ms_J1_charAt_3b067 : Cond.static yJ1_charAt_3b067 ∈ gT := gT_in (List.mem_of_getElem? (i := 566) (by decide +kernel)) (by decide +kernel)
theorem mi_J0_checkIndex_df160 : MI yJ0_checkIndex_df160 cJ0_checkIndex_df160 2 none 2 := ⟨gT_in (List.mem_of_getElem? (i := 570) (by decide +kernel)) (by decide +kernel), gT_in (List.mem_of_getElem? (i := 62) (by decide +kernel)) (by decide +kernel), by decide +kernel, by decide +kernel, by decide +kernel, by decide⟩
theorem ms_J0_checkIndex_df160 : Cond.static yJ0_checkIndex_df160 ∈ gT := gT_in (List.mem_of_getElem? (i := 569) (by decide +kernel)) (by decide +kernel)
theorem mi_J3_checkIndex_8e157 : MI yJ3_checkIndex_8e157 cJ3_checkIndex_8e157 3 (some .int) 3 := ⟨gT_in (List.mem_of_getElem? (i := 575) (by decide +kernel)) (by decide +kernel), gT_in (List.mem_of_getElem? (i := 64) (by decide +kernel)) (by decide +kernel), by decide +kernel, by decide +kernel, by decide +kernel, by decide⟩
theorem ms_J3_checkIndex_8e157 : Cond.static yJ3_checkIndex_8e157 ∈ gT := gT_in (List.mem_of_getElem? (i := 574) (by decide +kernel)) (by decide +kernel)
theorem mi_J2_charAt_3b067 : MI yJ2_charAt_3b067 cJ2_charAt_3b067 2 (some .char) 2 := ⟨gT_in (List.mem_of_getElem? (i := 578) (by decide +kernel)) (by decide +kernel), gT_in (List.mem_of_getElem? (i := 65) (by decide +kernel)) (by decide +kernel), by decide +kernel, by decide +kernel, by decide +kernel, by decide⟩
theorem ms_J2_charAt_3b067 : Cond.static yJ2_charAt_3b067 ∈ gT := gT_in (List.mem_of_getElem? (i := 577) (by decide +kernel)) (by decide +kernel)
theorem mi_J2_checkIndex_2214a : MI yJ2_checkIndex_2214a cJ2_checkIndex_2214a 2 none 2 := ⟨gT_in (List.mem_of_getElem? (i := 581) (by decide +kernel)) (by decide +kernel), gT_in (List.mem_of_getElem? (i := 65) (by decide +kernel)) (by decide +kernel), by decide +kernel, by decide +kernel, by decide +kernel, by decide⟩
theorem ms_J2_checkIndex_2214a : Cond.static yJ2_checkIndex_2214a ∈ gT := gT_in (List.mem_of_getElem? (i := 580) (by decide +kernel)) (by decide +kernel)
theorem mi_J2_length_9d52b : MI yJ2_length_9d52b cJ2_length_9d52b 1 (some .int) 1 := ⟨gT_in (List.mem_of_getElem? (i := 584) (by decide +kernel)) (by decide +kernel), gT_in (List.mem_of_getElem? (i := 65) (by decide +kernel)) (by decide +kernel), by decide +kernel, by decide +kernel, by decide +kernel, by decide⟩
theorem ms_J2_length_9d52b : Cond.static yJ2_length_9d52b ∈ gT := gT_in (List.mem_of_getElem? (i := 583) (by decide +kernel)) (by decide +kernel)
theorem mi_J2_getChar_3b067 : MI yJ2_getChar_3b067 cJ2_getChar_3b067 2 (some .char) 2 := ⟨gT_in (List.mem_of_getElem? (i := 588) (by decide +kernel)) (by decide +kernel), gT_in (List.mem_of_getElem? (i := 65) (by decide +kernel)) (by decide +kernel), by decide +kernel, by decide +kernel, by decide +kernel, by decide⟩
theorem ms_J2_getChar_3b067 : Cond.static yJ2_getChar_3b067 ∈ gT := gT_in (List.mem_of_getElem? (i := 587) (by decide +kernel)) (by decide +kernel)
theorem mi_X2_readGuest : MI yX2_readGuest cX2_readGuest 5 (some .boolean) 1 := ⟨gT_in (List.mem_of_getElem? (i := 598) (by decide +kernel)) (by decide +kernel), gT_in (List.mem_of_getElem? (i := 56) (by decide +kernel)) (by decide +kernel), by decide +kernel, by decide +kernel, by decide +kernel, by decide⟩
theorem mv_X2_readGuest : MV yX2_readGuest := ⟨gT_in (List.mem_of_getElem? (i := 596) (by decide +kernel)) (by decide +kernel), gT_in (List.mem_of_getElem? (i := 597) (by decide +kernel)) (by decide +kernel)⟩
theorem mi_X2_takeNumber : MI yX2_takeNumber cX2_takeNumber 3 (some .int) 1 := ⟨gT_in (List.mem_of_getElem? (i := 602) (by decide +kernel)) (by decide +kernel), gT_in (List.mem_of_getElem? (i := 56) (by decide +kernel)) (by decide +kernel), by decide +kernel, by decide +kernel, by decide +kernel, by decide⟩
theorem mv_X2_takeNumber : MV yX2_takeNumber := ⟨gT_in (List.mem_of_getElem? (i := 600) (by decide +kernel)) (by decide +kernel), gT_in (List.mem_of_getElem? (i := 601) (by decide +kernel)) (by decide +kernel)⟩
theorem mi_X2_takeWord : MI yX2_takeWord cX2_takeWord 2 (some .boolean) 1 := ⟨gT_in (List.mem_of_getElem? (i := 607) (by decide +kernel)) (by decide +kernel), gT_in (List.mem_of_getElem? (i := 56) (by decide +kernel)) (by decide +kernel), by decide +kernel, by decide +kernel, by decide +kernel, by decide⟩
theorem mv_X2_takeWord : MV yX2_takeWord := ⟨gT_in (List.mem_of_getElem? (i := 605) (by decide +kernel)) (by decide +kernel), gT_in (List.mem_of_getElem? (i := 606) (by decide +kernel)) (by decide +kernel)⟩
theorem mi_X2_readMeal : MI yX2_readMeal cX2_readMeal 5 (some .boolean) 1 := ⟨gT_in (List.mem_of_getElem? (i := 614) (by decide +kernel)) (by decide +kernel), gT_in (List.mem_of_getElem? (i := 56) (by decide +kernel)) (by decide +kernel), by decide +kernel, by decide +kernel, by decide +kernel, by decide⟩
theorem mv_X2_readMeal : MV yX2_readMeal := ⟨gT_in (List.mem_of_getElem? (i := 612) (by decide +kernel)) (by decide +kernel), gT_in (List.mem_of_getElem? (i := 613) (by decide +kernel)) (by decide +kernel)⟩
theorem mi_X2_wordOf : MI yX2_wordOf cX2_wordOf 1 (some (.object "java/lang/String")) 1 := ⟨gT_in (List.mem_of_getElem? (i := 618) (by decide +kernel)) (by decide +kernel), gT_in (List.mem_of_getElem? (i := 56) (by decide +kernel)) (by decide +kernel), by decide +kernel, by decide +kernel, by decide +kernel, by decide⟩
theorem ms_X2_wordOf : Cond.static yX2_wordOf ∈ gT := gT_in (List.mem_of_getElem? (i := 617) (by decide +kernel)) (by decide +kernel)
theorem mi_X2_readDish : MI yX2_readDish cX2_readDish 8 (some .boolean) 2 := ⟨gT_in (List.mem_of_getElem? (i := 629) (by decide +kernel)) (by decide +kernel), gT_in (List.mem_of_getElem? (i := 56) (by decide +kernel)) (by decide +kernel), by decide +kernel, by decide +kernel, by decide +kernel, by decide⟩
theorem mv_X2_readDish : MV yX2_readDish := ⟨gT_in (List.mem_of_getElem? (i := 627) (by decide +kernel)) (by decide +kernel), gT_in (List.mem_of_getElem? (i := 628) (by decide +kernel)) (by decide +kernel)⟩
theorem mi_X3_hold : MI yX3_hold cX3_hold 3 (some .int) 2 := ⟨gT_in (List.mem_of_getElem? (i := 638) (by decide +kernel)) (by decide +kernel), gT_in (List.mem_of_getElem? (i := 54) (by decide +kernel)) (by decide +kernel), by decide +kernel, by decide +kernel, by decide +kernel, by decide⟩
theorem mv_X3_hold : MV yX3_hold := ⟨gT_in (List.mem_of_getElem? (i := 636) (by decide +kernel)) (by decide +kernel), gT_in (List.mem_of_getElem? (i := 637) (by decide +kernel)) (by decide +kernel)⟩
theorem mi_X3_isSpot : MI yX3_isSpot cX3_isSpot 1 (some .boolean) 1 := ⟨gT_in (List.mem_of_getElem? (i := 641) (by decide +kernel)) (by decide +kernel), gT_in (List.mem_of_getElem? (i := 54) (by decide +kernel)) (by decide +kernel), by decide +kernel, by decide +kernel, by decide +kernel, by decide⟩
theorem ms_X3_isSpot : Cond.static yX3_isSpot ∈ gT := gT_in (List.mem_of_getElem? (i := 640) (by decide +kernel)) (by decide +kernel)
theorem mi_X3_as : MI yX3_as cX3_as 4 (some .int) 2 := ⟨gT_in (List.mem_of_getElem? (i := 645) (by decide +kernel)) (by decide +kernel), gT_in (List.mem_of_getElem? (i := 54) (by decide +kernel)) (by decide +kernel), by decide +kernel, by decide +kernel, by decide +kernel, by decide⟩
theorem mv_X3_as : MV yX3_as := ⟨gT_in (List.mem_of_getElem? (i := 643) (by decide +kernel)) (by decide +kernel), gT_in (List.mem_of_getElem? (i := 644) (by decide +kernel)) (by decide +kernel)⟩
theorem mi_X0_isUnder : MI yX0_isUnder cX0_isUnder 4 (some .boolean) 2 := ⟨gT_in (List.mem_of_getElem? (i := 648) (by decide +kernel)) (by decide +kernel), gT_in (List.mem_of_getElem? (i := 55) (by decide +kernel)) (by decide +kernel), by decide +kernel, by decide +kernel, by decide +kernel, by decide⟩
theorem ms_X0_isUnder : Cond.static yX0_isUnder ∈ gT := gT_in (List.mem_of_getElem? (i := 647) (by decide +kernel)) (by decide +kernel)
theorem mi_X3_sheet : MI yX3_sheet cX3_sheet 4 (some .int) 3 := ⟨gT_in (List.mem_of_getElem? (i := 655) (by decide +kernel)) (by decide +kernel), gT_in (List.mem_of_getElem? (i := 54) (by decide +kernel)) (by decide +kernel), by decide +kernel, by decide +kernel, by decide +kernel, by decide⟩
theorem mv_X3_sheet : MV yX3_sheet := ⟨gT_in (List.mem_of_getElem? (i := 653) (by decide +kernel)) (by decide +kernel), gT_in (List.mem_of_getElem? (i := 654) (by decide +kernel)) (by decide +kernel)⟩
theorem mi_X1_start : MI yX1_start cX1_start 4 none 2 := ⟨gT_in (List.mem_of_getElem? (i := 660) (by decide +kernel)) (by decide +kernel), gT_in (List.mem_of_getElem? (i := 57) (by decide +kernel)) (by decide +kernel), by decide +kernel, by decide +kernel, by decide +kernel, by decide⟩
theorem mv_X1_start : MV yX1_start := ⟨gT_in (List.mem_of_getElem? (i := 658) (by decide +kernel)) (by decide +kernel), gT_in (List.mem_of_getElem? (i := 659) (by decide +kernel)) (by decide +kernel)⟩
theorem mi_X3_write : MI yX3_write cX3_write 5 (some .int) 3 := ⟨gT_in (List.mem_of_getElem? (i := 664) (by decide +kernel)) (by decide +kernel), gT_in (List.mem_of_getElem? (i := 54) (by decide +kernel)) (by decide +kernel), by decide +kernel, by decide +kernel, by decide +kernel, by decide⟩
theorem mv_X3_write : MV yX3_write := ⟨gT_in (List.mem_of_getElem? (i := 662) (by decide +kernel)) (by decide +kernel), gT_in (List.mem_of_getElem? (i := 663) (by decide +kernel)) (by decide +kernel)⟩
theorem mi_X1_put : MI yX1_put cX1_put 3 none 2 := ⟨gT_in (List.mem_of_getElem? (i := 668) (by decide +kernel)) (by decide +kernel), gT_in (List.mem_of_getElem? (i := 57) (by decide +kernel)) (by decide +kernel), by decide +kernel, by decide +kernel, by decide +kernel, by decide⟩
theorem mv_X1_put : MV yX1_put := ⟨gT_in (List.mem_of_getElem? (i := 666) (by decide +kernel)) (by decide +kernel), gT_in (List.mem_of_getElem? (i := 667) (by decide +kernel)) (by decide +kernel)⟩
theorem mi_X3_copy : MI yX3_copy cX3_copy 8 (some .int) 5 := ⟨gT_in (List.mem_of_getElem? (i := 672) (by decide +kernel)) (by decide +kernel), gT_in (List.mem_of_getElem? (i := 54) (by decide +kernel)) (by decide +kernel), by decide +kernel, by decide +kernel, by decide +kernel, by decide⟩
theorem mv_X3_copy : MV yX3_copy := ⟨gT_in (List.mem_of_getElem? (i := 670) (by decide +kernel)) (by decide +kernel), gT_in (List.mem_of_getElem? (i := 671) (by decide +kernel)) (by decide +kernel)⟩
theorem mi_X1_hasRange : MI yX1_hasRange cX1_hasRange 3 (some .boolean) 2 := ⟨gT_in (List.mem_of_getElem? (i := 676) (by decide +kernel)) (by decide +kernel), gT_in (List.mem_of_getElem? (i := 57) (by decide +kernel)) (by decide +kernel), by decide +kernel, by decide +kernel, by decide +kernel, by decide⟩
theorem mv_X1_hasRange : MV yX1_hasRange := ⟨gT_in (List.mem_of_getElem? (i := 674) (by decide +kernel)) (by decide +kernel), gT_in (List.mem_of_getElem? (i := 675) (by decide +kernel)) (by decide +kernel)⟩
theorem mi_X3_load : MI yX3_load cX3_load 6 (some .int) 1 := ⟨gT_in (List.mem_of_getElem? (i := 681) (by decide +kernel)) (by decide +kernel), gT_in (List.mem_of_getElem? (i := 54) (by decide +kernel)) (by decide +kernel), by decide +kernel, by decide +kernel, by decide +kernel, by decide⟩
theorem mv_X3_load : MV yX3_load := ⟨gT_in (List.mem_of_getElem? (i := 679) (by decide +kernel)) (by decide +kernel), gT_in (List.mem_of_getElem? (i := 680) (by decide +kernel)) (by decide +kernel)⟩
theorem mi_X3_judge : MI yX3_judge cX3_judge 4 (some .int) 1 := ⟨gT_in (List.mem_of_getElem? (i := 686) (by decide +kernel)) (by decide +kernel), gT_in (List.mem_of_getElem? (i := 54) (by decide +kernel)) (by decide +kernel), by decide +kernel, by decide +kernel, by decide +kernel, by decide⟩
theorem mv_X3_judge : MV yX3_judge := ⟨gT_in (List.mem_of_getElem? (i := 684) (by decide +kernel)) (by decide +kernel), gT_in (List.mem_of_getElem? (i := 685) (by decide +kernel)) (by decide +kernel)⟩
theorem mi_X3_image : MI yX3_image cX3_image 1 (some .int) 0 := ⟨gT_in (List.mem_of_getElem? (i := 690) (by decide +kernel)) (by decide +kernel), gT_in (List.mem_of_getElem? (i := 54) (by decide +kernel)) (by decide +kernel), by decide +kernel, by decide +kernel, by decide +kernel, by decide⟩
theorem mv_X3_image : MV yX3_image := ⟨gT_in (List.mem_of_getElem? (i := 688) (by decide +kernel)) (by decide +kernel), gT_in (List.mem_of_getElem? (i := 689) (by decide +kernel)) (by decide +kernel)⟩
theorem mi_X3_undo : MI yX3_undo cX3_undo 1 (some .int) 0 := ⟨gT_in (List.mem_of_getElem? (i := 694) (by decide +kernel)) (by decide +kernel), gT_in (List.mem_of_getElem? (i := 54) (by decide +kernel)) (by decide +kernel), by decide +kernel, by decide +kernel, by decide +kernel, by decide⟩
theorem mv_X3_undo : MV yX3_undo := ⟨gT_in (List.mem_of_getElem? (i := 692) (by decide +kernel)) (by decide +kernel), gT_in (List.mem_of_getElem? (i := 693) (by decide +kernel)) (by decide +kernel)⟩
theorem mi_X3_tear : MI yX3_tear cX3_tear 2 (some .int) 0 := ⟨gT_in (List.mem_of_getElem? (i := 698) (by decide +kernel)) (by decide +kernel), gT_in (List.mem_of_getElem? (i := 54) (by decide +kernel)) (by decide +kernel), by decide +kernel, by decide +kernel, by decide +kernel, by decide⟩
theorem mv_X3_tear : MV yX3_tear := ⟨gT_in (List.mem_of_getElem? (i := 696) (by decide +kernel)) (by decide +kernel), gT_in (List.mem_of_getElem? (i := 697) (by decide +kernel)) (by decide +kernel)⟩
theorem mi_X3_count : MI yX3_count cX3_count 2 (some .int) 1 := ⟨gT_in (List.mem_of_getElem? (i := 702) (by decide +kernel)) (by decide +kernel), gT_in (List.mem_of_getElem? (i := 54) (by decide +kernel)) (by decide +kernel), by decide +kernel, by decide +kernel, by decide +kernel, by decide⟩
theorem mv_X3_count : MV yX3_count := ⟨gT_in (List.mem_of_getElem? (i := 700) (by decide +kernel)) (by decide +kernel), gT_in (List.mem_of_getElem? (i := 701) (by decide +kernel)) (by decide +kernel)⟩
theorem mi_X0_spotsInUse : MI yX0_spotsInUse cX0_spotsInUse 3 (some .int) 0 := ⟨gT_in (List.mem_of_getElem? (i := 706) (by decide +kernel)) (by decide +kernel), gT_in (List.mem_of_getElem? (i := 55) (by decide +kernel)) (by decide +kernel), by decide +kernel, by decide +kernel, by decide +kernel, by decide⟩
theorem mv_X0_spotsInUse : MV yX0_spotsInUse := ⟨gT_in (List.mem_of_getElem? (i := 704) (by decide +kernel)) (by decide +kernel), gT_in (List.mem_of_getElem? (i := 705) (by decide +kernel)) (by decide +kernel)⟩
theorem mi_X3_status : MI yX3_status cX3_status 4 (some .int) 1 := ⟨gT_in (List.mem_of_getElem? (i := 710) (by decide +kernel)) (by decide +kernel), gT_in (List.mem_of_getElem? (i := 54) (by decide +kernel)) (by decide +kernel), by decide +kernel, by decide +kernel, by decide +kernel, by decide⟩
theorem mv_X3_status : MV yX3_status := ⟨gT_in (List.mem_of_getElem? (i := 708) (by decide +kernel)) (by decide +kernel), gT_in (List.mem_of_getElem? (i := 709) (by decide +kernel)) (by decide +kernel)⟩
theorem mi_X4_init : MI yX4_init cX4_init 2 none 0 := ⟨gT_in (List.mem_of_getElem? (i := 715) (by decide +kernel)) (by decide +kernel), gT_in (List.mem_of_getElem? (i := 58) (by decide +kernel)) (by decide +kernel), by decide +kernel, by decide +kernel, by decide +kernel, by decide⟩
theorem mi_X4_list : MI yX4_list cX4_list 4 (some .int) 3 := ⟨gT_in (List.mem_of_getElem? (i := 766) (by decide +kernel)) (by decide +kernel), gT_in (List.mem_of_getElem? (i := 58) (by decide +kernel)) (by decide +kernel), by decide +kernel, by decide +kernel, by decide +kernel, by decide⟩
theorem mv_X4_list : MV yX4_list := ⟨gT_in (List.mem_of_getElem? (i := 764) (by decide +kernel)) (by decide +kernel), gT_in (List.mem_of_getElem? (i := 765) (by decide +kernel)) (by decide +kernel)⟩
theorem mi_X4_isPlace : MI yX4_isPlace cX4_isPlace 1 (some .boolean) 1 := ⟨gT_in (List.mem_of_getElem? (i := 769) (by decide +kernel)) (by decide +kernel), gT_in (List.mem_of_getElem? (i := 58) (by decide +kernel)) (by decide +kernel), by decide +kernel, by decide +kernel, by decide +kernel, by decide⟩
theorem ms_X4_isPlace : Cond.static yX4_isPlace ∈ gT := gT_in (List.mem_of_getElem? (i := 768) (by decide +kernel)) (by decide +kernel)
theorem mi_X4_in : MI yX4_in cX4_in 3 (some .boolean) 3 := ⟨gT_in (List.mem_of_getElem? (i := 772) (by decide +kernel)) (by decide +kernel), gT_in (List.mem_of_getElem? (i := 58) (by decide +kernel)) (by decide +kernel), by decide +kernel, by decide +kernel, by decide +kernel, by decide⟩
theorem ms_X4_in : Cond.static yX4_in ∈ gT := gT_in (List.mem_of_getElem? (i := 771) (by decide +kernel)) (by decide +kernel)
theorem mi_X4_becomes : MI yX4_becomes cX4_becomes 4 (some .int) 2 := ⟨gT_in (List.mem_of_getElem? (i := 776) (by decide +kernel)) (by decide +kernel), gT_in (List.mem_of_getElem? (i := 58) (by decide +kernel)) (by decide +kernel), by decide +kernel, by decide +kernel, by decide +kernel, by decide⟩
theorem mv_X4_becomes : MV yX4_becomes := ⟨gT_in (List.mem_of_getElem? (i := 775) (by decide +kernel)) (by decide +kernel), gT_in (List.mem_of_getElem? (i := 6) (by decide +kernel)) (by decide +kernel)⟩
theorem mi_X4_finds : MI yX4_finds cX4_finds 2 (some .int) 1 := ⟨gT_in (List.mem_of_getElem? (i := 781) (by decide +kernel)) (by decide +kernel), gT_in (List.mem_of_getElem? (i := 58) (by decide +kernel)) (by decide +kernel), by decide +kernel, by decide +kernel, by decide +kernel, by decide⟩
theorem mv_X4_finds : MV yX4_finds := ⟨gT_in (List.mem_of_getElem? (i := 780) (by decide +kernel)) (by decide +kernel), gT_in (List.mem_of_getElem? (i := 7) (by decide +kernel)) (by decide +kernel)⟩
theorem mi_X4_listed : MI yX4_listed cX4_listed 2 (some .int) 1 := ⟨gT_in (List.mem_of_getElem? (i := 785) (by decide +kernel)) (by decide +kernel), gT_in (List.mem_of_getElem? (i := 58) (by decide +kernel)) (by decide +kernel), by decide +kernel, by decide +kernel, by decide +kernel, by decide⟩
theorem mv_X4_listed : MV yX4_listed := ⟨gT_in (List.mem_of_getElem? (i := 783) (by decide +kernel)) (by decide +kernel), gT_in (List.mem_of_getElem? (i := 784) (by decide +kernel)) (by decide +kernel)⟩
theorem mi_X4_dish : MI yX4_dish cX4_dish 4 (some .int) 3 := ⟨gT_in (List.mem_of_getElem? (i := 789) (by decide +kernel)) (by decide +kernel), gT_in (List.mem_of_getElem? (i := 58) (by decide +kernel)) (by decide +kernel), by decide +kernel, by decide +kernel, by decide +kernel, by decide⟩
theorem mv_X4_dish : MV yX4_dish := ⟨gT_in (List.mem_of_getElem? (i := 787) (by decide +kernel)) (by decide +kernel), gT_in (List.mem_of_getElem? (i := 788) (by decide +kernel)) (by decide +kernel)⟩
theorem mi_X4_isTown : MI yX4_isTown cX4_isTown 1 (some .boolean) 1 := ⟨gT_in (List.mem_of_getElem? (i := 792) (by decide +kernel)) (by decide +kernel), gT_in (List.mem_of_getElem? (i := 58) (by decide +kernel)) (by decide +kernel), by decide +kernel, by decide +kernel, by decide +kernel, by decide⟩
theorem ms_X4_isTown : Cond.static yX4_isTown ∈ gT := gT_in (List.mem_of_getElem? (i := 791) (by decide +kernel)) (by decide +kernel)
theorem mi_X4_comes : MI yX4_comes cX4_comes 5 (some .int) 3 := ⟨gT_in (List.mem_of_getElem? (i := 797) (by decide +kernel)) (by decide +kernel), gT_in (List.mem_of_getElem? (i := 58) (by decide +kernel)) (by decide +kernel), by decide +kernel, by decide +kernel, by decide +kernel, by decide⟩
theorem mv_X4_comes : MV yX4_comes := ⟨gT_in (List.mem_of_getElem? (i := 796) (by decide +kernel)) (by decide +kernel), gT_in (List.mem_of_getElem? (i := 8) (by decide +kernel)) (by decide +kernel)⟩
theorem mi_X4_put : MI yX4_put cX4_put 4 none 3 := ⟨gT_in (List.mem_of_getElem? (i := 801) (by decide +kernel)) (by decide +kernel), gT_in (List.mem_of_getElem? (i := 58) (by decide +kernel)) (by decide +kernel), by decide +kernel, by decide +kernel, by decide +kernel, by decide⟩
theorem mv_X4_put : MV yX4_put := ⟨gT_in (List.mem_of_getElem? (i := 800) (by decide +kernel)) (by decide +kernel), gT_in (List.mem_of_getElem? (i := 9) (by decide +kernel)) (by decide +kernel)⟩
theorem mi_X4_guest : MI yX4_guest cX4_guest 2 (some .int) 1 := ⟨gT_in (List.mem_of_getElem? (i := 805) (by decide +kernel)) (by decide +kernel), gT_in (List.mem_of_getElem? (i := 58) (by decide +kernel)) (by decide +kernel), by decide +kernel, by decide +kernel, by decide +kernel, by decide⟩
theorem mv_X4_guest : MV yX4_guest := ⟨gT_in (List.mem_of_getElem? (i := 803) (by decide +kernel)) (by decide +kernel), gT_in (List.mem_of_getElem? (i := 804) (by decide +kernel)) (by decide +kernel)⟩
theorem mi_X4_enters : MI yX4_enters cX4_enters 4 (some .int) 2 := ⟨gT_in (List.mem_of_getElem? (i := 809) (by decide +kernel)) (by decide +kernel), gT_in (List.mem_of_getElem? (i := 58) (by decide +kernel)) (by decide +kernel), by decide +kernel, by decide +kernel, by decide +kernel, by decide⟩
theorem mv_X4_enters : MV yX4_enters := ⟨gT_in (List.mem_of_getElem? (i := 808) (by decide +kernel)) (by decide +kernel), gT_in (List.mem_of_getElem? (i := 10) (by decide +kernel)) (by decide +kernel)⟩
theorem mi_X4_lets : MI yX4_lets cX4_lets 4 none 3 := ⟨gT_in (List.mem_of_getElem? (i := 813) (by decide +kernel)) (by decide +kernel), gT_in (List.mem_of_getElem? (i := 58) (by decide +kernel)) (by decide +kernel), by decide +kernel, by decide +kernel, by decide +kernel, by decide⟩
theorem mv_X4_lets : MV yX4_lets := ⟨gT_in (List.mem_of_getElem? (i := 812) (by decide +kernel)) (by decide +kernel), gT_in (List.mem_of_getElem? (i := 11) (by decide +kernel)) (by decide +kernel)⟩
theorem mi_X4_of : MI yX4_of cX4_of 3 (some .int) 2 := ⟨gT_in (List.mem_of_getElem? (i := 817) (by decide +kernel)) (by decide +kernel), gT_in (List.mem_of_getElem? (i := 58) (by decide +kernel)) (by decide +kernel), by decide +kernel, by decide +kernel, by decide +kernel, by decide⟩
theorem mv_X4_of : MV yX4_of := ⟨gT_in (List.mem_of_getElem? (i := 815) (by decide +kernel)) (by decide +kernel), gT_in (List.mem_of_getElem? (i := 816) (by decide +kernel)) (by decide +kernel)⟩
theorem mi_X4_isDish : MI yX4_isDish cX4_isDish 2 (some .boolean) 1 := ⟨gT_in (List.mem_of_getElem? (i := 821) (by decide +kernel)) (by decide +kernel), gT_in (List.mem_of_getElem? (i := 58) (by decide +kernel)) (by decide +kernel), by decide +kernel, by decide +kernel, by decide +kernel, by decide⟩
theorem mv_X4_isDish : MV yX4_isDish := ⟨gT_in (List.mem_of_getElem? (i := 820) (by decide +kernel)) (by decide +kernel), gT_in (List.mem_of_getElem? (i := 12) (by decide +kernel)) (by decide +kernel)⟩
theorem mi_X4_it : MI yX4_it cX4_it 3 (some .int) 2 := ⟨gT_in (List.mem_of_getElem? (i := 825) (by decide +kernel)) (by decide +kernel), gT_in (List.mem_of_getElem? (i := 58) (by decide +kernel)) (by decide +kernel), by decide +kernel, by decide +kernel, by decide +kernel, by decide⟩
theorem mv_X4_it : MV yX4_it := ⟨gT_in (List.mem_of_getElem? (i := 824) (by decide +kernel)) (by decide +kernel), gT_in (List.mem_of_getElem? (i := 13) (by decide +kernel)) (by decide +kernel)⟩
theorem mi_X4_change : MI yX4_change cX4_change 4 (some .int) 3 := ⟨gT_in (List.mem_of_getElem? (i := 829) (by decide +kernel)) (by decide +kernel), gT_in (List.mem_of_getElem? (i := 58) (by decide +kernel)) (by decide +kernel), by decide +kernel, by decide +kernel, by decide +kernel, by decide⟩
theorem mv_X4_change : MV yX4_change := ⟨gT_in (List.mem_of_getElem? (i := 827) (by decide +kernel)) (by decide +kernel), gT_in (List.mem_of_getElem? (i := 828) (by decide +kernel)) (by decide +kernel)⟩
theorem mi_X4_mostOf : MI yX4_mostOf cX4_mostOf 1 (some .int) 1 := ⟨gT_in (List.mem_of_getElem? (i := 832) (by decide +kernel)) (by decide +kernel), gT_in (List.mem_of_getElem? (i := 58) (by decide +kernel)) (by decide +kernel), by decide +kernel, by decide +kernel, by decide +kernel, by decide⟩
theorem ms_X4_mostOf : Cond.static yX4_mostOf ∈ gT := gT_in (List.mem_of_getElem? (i := 831) (by decide +kernel)) (by decide +kernel)
theorem mi_X4_ofGuest : MI yX4_ofGuest cX4_ofGuest 3 (some .int) 2 := ⟨gT_in (List.mem_of_getElem? (i := 836) (by decide +kernel)) (by decide +kernel), gT_in (List.mem_of_getElem? (i := 58) (by decide +kernel)) (by decide +kernel), by decide +kernel, by decide +kernel, by decide +kernel, by decide⟩
theorem mv_X4_ofGuest : MV yX4_ofGuest := ⟨gT_in (List.mem_of_getElem? (i := 834) (by decide +kernel)) (by decide +kernel), gT_in (List.mem_of_getElem? (i := 835) (by decide +kernel)) (by decide +kernel)⟩
theorem mi_X4_isGuest : MI yX4_isGuest cX4_isGuest 2 (some .boolean) 1 := ⟨gT_in (List.mem_of_getElem? (i := 840) (by decide +kernel)) (by decide +kernel), gT_in (List.mem_of_getElem? (i := 58) (by decide +kernel)) (by decide +kernel), by decide +kernel, by decide +kernel, by decide +kernel, by decide⟩
theorem mv_X4_isGuest : MV yX4_isGuest := ⟨gT_in (List.mem_of_getElem? (i := 839) (by decide +kernel)) (by decide +kernel), gT_in (List.mem_of_getElem? (i := 14) (by decide +kernel)) (by decide +kernel)⟩
theorem mi_X4_his : MI yX4_his cX4_his 3 (some .int) 2 := ⟨gT_in (List.mem_of_getElem? (i := 844) (by decide +kernel)) (by decide +kernel), gT_in (List.mem_of_getElem? (i := 58) (by decide +kernel)) (by decide +kernel), by decide +kernel, by decide +kernel, by decide +kernel, by decide⟩
theorem mv_X4_his : MV yX4_his := ⟨gT_in (List.mem_of_getElem? (i := 843) (by decide +kernel)) (by decide +kernel), gT_in (List.mem_of_getElem? (i := 15) (by decide +kernel)) (by decide +kernel)⟩
theorem mi_X4_seat : MI yX4_seat cX4_seat 4 (some .int) 3 := ⟨gT_in (List.mem_of_getElem? (i := 848) (by decide +kernel)) (by decide +kernel), gT_in (List.mem_of_getElem? (i := 58) (by decide +kernel)) (by decide +kernel), by decide +kernel, by decide +kernel, by decide +kernel, by decide⟩
theorem mv_X4_seat : MV yX4_seat := ⟨gT_in (List.mem_of_getElem? (i := 846) (by decide +kernel)) (by decide +kernel), gT_in (List.mem_of_getElem? (i := 847) (by decide +kernel)) (by decide +kernel)⟩
theorem mi_X4_mostOfGuest : MI yX4_mostOfGuest cX4_mostOfGuest 1 (some .int) 1 := ⟨gT_in (List.mem_of_getElem? (i := 851) (by decide +kernel)) (by decide +kernel), gT_in (List.mem_of_getElem? (i := 58) (by decide +kernel)) (by decide +kernel), by decide +kernel, by decide +kernel, by decide +kernel, by decide⟩
theorem ms_X4_mostOfGuest : Cond.static yX4_mostOfGuest ∈ gT := gT_in (List.mem_of_getElem? (i := 850) (by decide +kernel)) (by decide +kernel)
theorem mi_X4_would : MI yX4_would cX4_would 5 (some .int) 3 := ⟨gT_in (List.mem_of_getElem? (i := 856) (by decide +kernel)) (by decide +kernel), gT_in (List.mem_of_getElem? (i := 58) (by decide +kernel)) (by decide +kernel), by decide +kernel, by decide +kernel, by decide +kernel, by decide⟩
theorem mv_X4_would : MV yX4_would := ⟨gT_in (List.mem_of_getElem? (i := 854) (by decide +kernel)) (by decide +kernel), gT_in (List.mem_of_getElem? (i := 855) (by decide +kernel)) (by decide +kernel)⟩
theorem mi_X4_isLeft : MI yX4_isLeft cX4_isLeft 5 (some .boolean) 2 := ⟨gT_in (List.mem_of_getElem? (i := 860) (by decide +kernel)) (by decide +kernel), gT_in (List.mem_of_getElem? (i := 58) (by decide +kernel)) (by decide +kernel), by decide +kernel, by decide +kernel, by decide +kernel, by decide⟩
theorem mv_X4_isLeft : MV yX4_isLeft := ⟨gT_in (List.mem_of_getElem? (i := 859) (by decide +kernel)) (by decide +kernel), gT_in (List.mem_of_getElem? (i := 16) (by decide +kernel)) (by decide +kernel)⟩
theorem mi_X4_isAnotherFor : MI yX4_isAnotherFor cX4_isAnotherFor 5 (some .boolean) 2 := ⟨gT_in (List.mem_of_getElem? (i := 864) (by decide +kernel)) (by decide +kernel), gT_in (List.mem_of_getElem? (i := 58) (by decide +kernel)) (by decide +kernel), by decide +kernel, by decide +kernel, by decide +kernel, by decide⟩
theorem mv_X4_isAnotherFor : MV yX4_isAnotherFor := ⟨gT_in (List.mem_of_getElem? (i := 863) (by decide +kernel)) (by decide +kernel), gT_in (List.mem_of_getElem? (i := 17) (by decide +kernel)) (by decide +kernel)⟩
theorem mi_X4_costs : MI yX4_costs cX4_costs 6 (some .int) 3 := ⟨gT_in (List.mem_of_getElem? (i := 868) (by decide +kernel)) (by decide +kernel), gT_in (List.mem_of_getElem? (i := 58) (by decide +kernel)) (by decide +kernel), by decide +kernel, by decide +kernel, by decide +kernel, by decide⟩
theorem mv_X4_costs : MV yX4_costs := ⟨gT_in (List.mem_of_getElem? (i := 867) (by decide +kernel)) (by decide +kernel), gT_in (List.mem_of_getElem? (i := 18) (by decide +kernel)) (by decide +kernel)⟩
theorem mi_X4_bends : MI yX4_bends cX4_bends 4 (some .int) 2 := ⟨gT_in (List.mem_of_getElem? (i := 872) (by decide +kernel)) (by decide +kernel), gT_in (List.mem_of_getElem? (i := 58) (by decide +kernel)) (by decide +kernel), by decide +kernel, by decide +kernel, by decide +kernel, by decide⟩
theorem mv_X4_bends : MV yX4_bends := ⟨gT_in (List.mem_of_getElem? (i := 871) (by decide +kernel)) (by decide +kernel), gT_in (List.mem_of_getElem? (i := 19) (by decide +kernel)) (by decide +kernel)⟩
theorem mi_X4_eat : MI yX4_eat cX4_eat 3 (some .int) 2 := ⟨gT_in (List.mem_of_getElem? (i := 876) (by decide +kernel)) (by decide +kernel), gT_in (List.mem_of_getElem? (i := 58) (by decide +kernel)) (by decide +kernel), by decide +kernel, by decide +kernel, by decide +kernel, by decide⟩
theorem mv_X4_eat : MV yX4_eat := ⟨gT_in (List.mem_of_getElem? (i := 874) (by decide +kernel)) (by decide +kernel), gT_in (List.mem_of_getElem? (i := 875) (by decide +kernel)) (by decide +kernel)⟩
theorem mi_X4_eats : MI yX4_eats cX4_eats 5 (some .int) 2 := ⟨gT_in (List.mem_of_getElem? (i := 881) (by decide +kernel)) (by decide +kernel), gT_in (List.mem_of_getElem? (i := 58) (by decide +kernel)) (by decide +kernel), by decide +kernel, by decide +kernel, by decide +kernel, by decide⟩
theorem mv_X4_eats : MV yX4_eats := ⟨gT_in (List.mem_of_getElem? (i := 880) (by decide +kernel)) (by decide +kernel), gT_in (List.mem_of_getElem? (i := 20) (by decide +kernel)) (by decide +kernel)⟩
theorem mi_X4_held : MI yX4_held cX4_held 3 (some .int) 3 := ⟨gT_in (List.mem_of_getElem? (i := 884) (by decide +kernel)) (by decide +kernel), gT_in (List.mem_of_getElem? (i := 58) (by decide +kernel)) (by decide +kernel), by decide +kernel, by decide +kernel, by decide +kernel, by decide⟩
theorem ms_X4_held : Cond.static yX4_held ∈ gT := gT_in (List.mem_of_getElem? (i := 883) (by decide +kernel)) (by decide +kernel)
theorem mi_X4_go : MI yX4_go cX4_go 2 (some .int) 1 := ⟨gT_in (List.mem_of_getElem? (i := 888) (by decide +kernel)) (by decide +kernel), gT_in (List.mem_of_getElem? (i := 58) (by decide +kernel)) (by decide +kernel), by decide +kernel, by decide +kernel, by decide +kernel, by decide⟩
theorem mv_X4_go : MV yX4_go := ⟨gT_in (List.mem_of_getElem? (i := 886) (by decide +kernel)) (by decide +kernel), gT_in (List.mem_of_getElem? (i := 887) (by decide +kernel)) (by decide +kernel)⟩
theorem mi_X4_goesFor : MI yX4_goesFor cX4_goesFor 3 none 1 := ⟨gT_in (List.mem_of_getElem? (i := 892) (by decide +kernel)) (by decide +kernel), gT_in (List.mem_of_getElem? (i := 58) (by decide +kernel)) (by decide +kernel), by decide +kernel, by decide +kernel, by decide +kernel, by decide⟩
theorem mv_X4_goesFor : MV yX4_goesFor := ⟨gT_in (List.mem_of_getElem? (i := 891) (by decide +kernel)) (by decide +kernel), gT_in (List.mem_of_getElem? (i := 21) (by decide +kernel)) (by decide +kernel)⟩
theorem mi_X4_goes : MI yX4_goes cX4_goes 3 none 0 := ⟨gT_in (List.mem_of_getElem? (i := 896) (by decide +kernel)) (by decide +kernel), gT_in (List.mem_of_getElem? (i := 58) (by decide +kernel)) (by decide +kernel), by decide +kernel, by decide +kernel, by decide +kernel, by decide⟩
theorem mv_X4_goes : MV yX4_goes := ⟨gT_in (List.mem_of_getElem? (i := 895) (by decide +kernel)) (by decide +kernel), gT_in (List.mem_of_getElem? (i := 22) (by decide +kernel)) (by decide +kernel)⟩
theorem mi_X4_bills : MI yX4_bills cX4_bills 3 (some .int) 0 := ⟨gT_in (List.mem_of_getElem? (i := 900) (by decide +kernel)) (by decide +kernel), gT_in (List.mem_of_getElem? (i := 58) (by decide +kernel)) (by decide +kernel), by decide +kernel, by decide +kernel, by decide +kernel, by decide⟩
theorem mv_X4_bills : MV yX4_bills := ⟨gT_in (List.mem_of_getElem? (i := 899) (by decide +kernel)) (by decide +kernel), gT_in (List.mem_of_getElem? (i := 23) (by decide +kernel)) (by decide +kernel)⟩
theorem mi_X4_now : MI yX4_now cX4_now 2 (some .int) 1 := ⟨gT_in (List.mem_of_getElem? (i := 904) (by decide +kernel)) (by decide +kernel), gT_in (List.mem_of_getElem? (i := 58) (by decide +kernel)) (by decide +kernel), by decide +kernel, by decide +kernel, by decide +kernel, by decide⟩
theorem mv_X4_now : MV yX4_now := ⟨gT_in (List.mem_of_getElem? (i := 902) (by decide +kernel)) (by decide +kernel), gT_in (List.mem_of_getElem? (i := 903) (by decide +kernel)) (by decide +kernel)⟩
theorem mi_X4_aims : MI yX4_aims cX4_aims 3 (some .int) 0 := ⟨gT_in (List.mem_of_getElem? (i := 908) (by decide +kernel)) (by decide +kernel), gT_in (List.mem_of_getElem? (i := 58) (by decide +kernel)) (by decide +kernel), by decide +kernel, by decide +kernel, by decide +kernel, by decide⟩
theorem mv_X4_aims : MV yX4_aims := ⟨gT_in (List.mem_of_getElem? (i := 907) (by decide +kernel)) (by decide +kernel), gT_in (List.mem_of_getElem? (i := 24) (by decide +kernel)) (by decide +kernel)⟩
theorem mi_X4_allBeen : MI yX4_allBeen cX4_allBeen 3 (some .int) 0 := ⟨gT_in (List.mem_of_getElem? (i := 912) (by decide +kernel)) (by decide +kernel), gT_in (List.mem_of_getElem? (i := 58) (by decide +kernel)) (by decide +kernel), by decide +kernel, by decide +kernel, by decide +kernel, by decide⟩
theorem mv_X4_allBeen : MV yX4_allBeen := ⟨gT_in (List.mem_of_getElem? (i := 911) (by decide +kernel)) (by decide +kernel), gT_in (List.mem_of_getElem? (i := 25) (by decide +kernel)) (by decide +kernel)⟩
theorem mi_X4_allServed : MI yX4_allServed cX4_allServed 3 (some .int) 0 := ⟨gT_in (List.mem_of_getElem? (i := 916) (by decide +kernel)) (by decide +kernel), gT_in (List.mem_of_getElem? (i := 58) (by decide +kernel)) (by decide +kernel), by decide +kernel, by decide +kernel, by decide +kernel, by decide⟩
theorem mv_X4_allServed : MV yX4_allServed := ⟨gT_in (List.mem_of_getElem? (i := 915) (by decide +kernel)) (by decide +kernel), gT_in (List.mem_of_getElem? (i := 26) (by decide +kernel)) (by decide +kernel)⟩
theorem mi_X4_pairsApart : MI yX4_pairsApart cX4_pairsApart 4 (some .int) 0 := ⟨gT_in (List.mem_of_getElem? (i := 920) (by decide +kernel)) (by decide +kernel), gT_in (List.mem_of_getElem? (i := 58) (by decide +kernel)) (by decide +kernel), by decide +kernel, by decide +kernel, by decide +kernel, by decide⟩
theorem mv_X4_pairsApart : MV yX4_pairsApart := ⟨gT_in (List.mem_of_getElem? (i := 919) (by decide +kernel)) (by decide +kernel), gT_in (List.mem_of_getElem? (i := 27) (by decide +kernel)) (by decide +kernel)⟩
theorem mi_X4_onCard : MI yX4_onCard cX4_onCard 3 (some .int) 0 := ⟨gT_in (List.mem_of_getElem? (i := 924) (by decide +kernel)) (by decide +kernel), gT_in (List.mem_of_getElem? (i := 58) (by decide +kernel)) (by decide +kernel), by decide +kernel, by decide +kernel, by decide +kernel, by decide⟩
theorem mv_X4_onCard : MV yX4_onCard := ⟨gT_in (List.mem_of_getElem? (i := 923) (by decide +kernel)) (by decide +kernel), gT_in (List.mem_of_getElem? (i := 28) (by decide +kernel)) (by decide +kernel)⟩
theorem mi_X4_debtor : MI yX4_debtor cX4_debtor 3 (some .int) 0 := ⟨gT_in (List.mem_of_getElem? (i := 928) (by decide +kernel)) (by decide +kernel), gT_in (List.mem_of_getElem? (i := 58) (by decide +kernel)) (by decide +kernel), by decide +kernel, by decide +kernel, by decide +kernel, by decide⟩
theorem mv_X4_debtor : MV yX4_debtor := ⟨gT_in (List.mem_of_getElem? (i := 927) (by decide +kernel)) (by decide +kernel), gT_in (List.mem_of_getElem? (i := 29) (by decide +kernel)) (by decide +kernel)⟩
theorem mi_X4_ahead : MI yX4_ahead cX4_ahead 4 (some .int) 3 := ⟨gT_in (List.mem_of_getElem? (i := 932) (by decide +kernel)) (by decide +kernel), gT_in (List.mem_of_getElem? (i := 58) (by decide +kernel)) (by decide +kernel), by decide +kernel, by decide +kernel, by decide +kernel, by decide⟩
theorem mv_X4_ahead : MV yX4_ahead := ⟨gT_in (List.mem_of_getElem? (i := 930) (by decide +kernel)) (by decide +kernel), gT_in (List.mem_of_getElem? (i := 931) (by decide +kernel)) (by decide +kernel)⟩
theorem mi_X4_behind : MI yX4_behind cX4_behind 4 (some .int) 2 := ⟨gT_in (List.mem_of_getElem? (i := 936) (by decide +kernel)) (by decide +kernel), gT_in (List.mem_of_getElem? (i := 58) (by decide +kernel)) (by decide +kernel), by decide +kernel, by decide +kernel, by decide +kernel, by decide⟩
theorem mv_X4_behind : MV yX4_behind := ⟨gT_in (List.mem_of_getElem? (i := 935) (by decide +kernel)) (by decide +kernel), gT_in (List.mem_of_getElem? (i := 30) (by decide +kernel)) (by decide +kernel)⟩
theorem mi_X4_thinks : MI yX4_thinks cX4_thinks 1 none 0 := ⟨gT_in (List.mem_of_getElem? (i := 940) (by decide +kernel)) (by decide +kernel), gT_in (List.mem_of_getElem? (i := 58) (by decide +kernel)) (by decide +kernel), by decide +kernel, by decide +kernel, by decide +kernel, by decide⟩
theorem mv_X4_thinks : MV yX4_thinks := ⟨gT_in (List.mem_of_getElem? (i := 939) (by decide +kernel)) (by decide +kernel), gT_in (List.mem_of_getElem? (i := 31) (by decide +kernel)) (by decide +kernel)⟩
theorem mi_X4_copyAll : MI yX4_copyAll cX4_copyAll 3 none 2 := ⟨gT_in (List.mem_of_getElem? (i := 943) (by decide +kernel)) (by decide +kernel), gT_in (List.mem_of_getElem? (i := 58) (by decide +kernel)) (by decide +kernel), by decide +kernel, by decide +kernel, by decide +kernel, by decide⟩
theorem ms_X4_copyAll : Cond.static yX4_copyAll ∈ gT := gT_in (List.mem_of_getElem? (i := 942) (by decide +kernel)) (by decide +kernel)
theorem mi_X4_putsBack : MI yX4_putsBack cX4_putsBack 1 none 0 := ⟨gT_in (List.mem_of_getElem? (i := 947) (by decide +kernel)) (by decide +kernel), gT_in (List.mem_of_getElem? (i := 58) (by decide +kernel)) (by decide +kernel), by decide +kernel, by decide +kernel, by decide +kernel, by decide⟩
theorem mv_X4_putsBack : MV yX4_putsBack := ⟨gT_in (List.mem_of_getElem? (i := 946) (by decide +kernel)) (by decide +kernel), gT_in (List.mem_of_getElem? (i := 32) (by decide +kernel)) (by decide +kernel)⟩
theorem mi_X4_served : MI yX4_served cX4_served 3 (some .int) 2 := ⟨gT_in (List.mem_of_getElem? (i := 951) (by decide +kernel)) (by decide +kernel), gT_in (List.mem_of_getElem? (i := 58) (by decide +kernel)) (by decide +kernel), by decide +kernel, by decide +kernel, by decide +kernel, by decide⟩
theorem mv_X4_served : MV yX4_served := ⟨gT_in (List.mem_of_getElem? (i := 949) (by decide +kernel)) (by decide +kernel), gT_in (List.mem_of_getElem? (i := 950) (by decide +kernel)) (by decide +kernel)⟩
theorem mi_X4_when : MI yX4_when cX4_when 4 (some .int) 2 := ⟨gT_in (List.mem_of_getElem? (i := 955) (by decide +kernel)) (by decide +kernel), gT_in (List.mem_of_getElem? (i := 58) (by decide +kernel)) (by decide +kernel), by decide +kernel, by decide +kernel, by decide +kernel, by decide⟩
theorem mv_X4_when : MV yX4_when := ⟨gT_in (List.mem_of_getElem? (i := 953) (by decide +kernel)) (by decide +kernel), gT_in (List.mem_of_getElem? (i := 954) (by decide +kernel)) (by decide +kernel)⟩
theorem mi_X4_owes : MI yX4_owes cX4_owes 4 (some .int) 2 := ⟨gT_in (List.mem_of_getElem? (i := 960) (by decide +kernel)) (by decide +kernel), gT_in (List.mem_of_getElem? (i := 58) (by decide +kernel)) (by decide +kernel), by decide +kernel, by decide +kernel, by decide +kernel, by decide⟩
theorem mv_X4_owes : MV yX4_owes := ⟨gT_in (List.mem_of_getElem? (i := 958) (by decide +kernel)) (by decide +kernel), gT_in (List.mem_of_getElem? (i := 959) (by decide +kernel)) (by decide +kernel)⟩
theorem mi_X4_part : MI yX4_part cX4_part 4 (some .int) 2 := ⟨gT_in (List.mem_of_getElem? (i := 964) (by decide +kernel)) (by decide +kernel), gT_in (List.mem_of_getElem? (i := 58) (by decide +kernel)) (by decide +kernel), by decide +kernel, by decide +kernel, by decide +kernel, by decide⟩
theorem mv_X4_part : MV yX4_part := ⟨gT_in (List.mem_of_getElem? (i := 962) (by decide +kernel)) (by decide +kernel), gT_in (List.mem_of_getElem? (i := 963) (by decide +kernel)) (by decide +kernel)⟩
theorem mi_X4_dishFor : MI yX4_dishFor cX4_dishFor 3 (some .int) 2 := ⟨gT_in (List.mem_of_getElem? (i := 968) (by decide +kernel)) (by decide +kernel), gT_in (List.mem_of_getElem? (i := 58) (by decide +kernel)) (by decide +kernel), by decide +kernel, by decide +kernel, by decide +kernel, by decide⟩
theorem mv_X4_dishFor : MV yX4_dishFor := ⟨gT_in (List.mem_of_getElem? (i := 966) (by decide +kernel)) (by decide +kernel), gT_in (List.mem_of_getElem? (i := 967) (by decide +kernel)) (by decide +kernel)⟩
theorem mi_X4_leastBy : MI yX4_leastBy cX4_leastBy 10 (some .int) 4 := ⟨gT_in (List.mem_of_getElem? (i := 972) (by decide +kernel)) (by decide +kernel), gT_in (List.mem_of_getElem? (i := 58) (by decide +kernel)) (by decide +kernel), by decide +kernel, by decide +kernel, by decide +kernel, by decide⟩
theorem mv_X4_leastBy : MV yX4_leastBy := ⟨gT_in (List.mem_of_getElem? (i := 971) (by decide +kernel)) (by decide +kernel), gT_in (List.mem_of_getElem? (i := 33) (by decide +kernel)) (by decide +kernel)⟩
theorem mi_X4_kindFor : MI yX4_kindFor cX4_kindFor 3 (some .int) 2 := ⟨gT_in (List.mem_of_getElem? (i := 976) (by decide +kernel)) (by decide +kernel), gT_in (List.mem_of_getElem? (i := 58) (by decide +kernel)) (by decide +kernel), by decide +kernel, by decide +kernel, by decide +kernel, by decide⟩
theorem mv_X4_kindFor : MV yX4_kindFor := ⟨gT_in (List.mem_of_getElem? (i := 974) (by decide +kernel)) (by decide +kernel), gT_in (List.mem_of_getElem? (i := 975) (by decide +kernel)) (by decide +kernel)⟩
theorem mi_X4_bentFor : MI yX4_bentFor cX4_bentFor 6 (some .int) 3 := ⟨gT_in (List.mem_of_getElem? (i := 980) (by decide +kernel)) (by decide +kernel), gT_in (List.mem_of_getElem? (i := 58) (by decide +kernel)) (by decide +kernel), by decide +kernel, by decide +kernel, by decide +kernel, by decide⟩
theorem mv_X4_bentFor : MV yX4_bentFor := ⟨gT_in (List.mem_of_getElem? (i := 978) (by decide +kernel)) (by decide +kernel), gT_in (List.mem_of_getElem? (i := 979) (by decide +kernel)) (by decide +kernel)⟩
theorem mi_X4_orNone : MI yX4_orNone cX4_orNone 2 (some .int) 1 := ⟨gT_in (List.mem_of_getElem? (i := 984) (by decide +kernel)) (by decide +kernel), gT_in (List.mem_of_getElem? (i := 58) (by decide +kernel)) (by decide +kernel), by decide +kernel, by decide +kernel, by decide +kernel, by decide⟩
theorem mv_X4_orNone : MV yX4_orNone := ⟨gT_in (List.mem_of_getElem? (i := 983) (by decide +kernel)) (by decide +kernel), gT_in (List.mem_of_getElem? (i := 34) (by decide +kernel)) (by decide +kernel)⟩
theorem mi_X4_courses : MI yX4_courses cX4_courses 6 (some .int) 2 := ⟨gT_in (List.mem_of_getElem? (i := 988) (by decide +kernel)) (by decide +kernel), gT_in (List.mem_of_getElem? (i := 58) (by decide +kernel)) (by decide +kernel), by decide +kernel, by decide +kernel, by decide +kernel, by decide⟩
theorem mv_X4_courses : MV yX4_courses := ⟨gT_in (List.mem_of_getElem? (i := 986) (by decide +kernel)) (by decide +kernel), gT_in (List.mem_of_getElem? (i := 987) (by decide +kernel)) (by decide +kernel)⟩
theorem mi_X4_doBring : MI yX4_doBring cX4_doBring 10 (some .boolean) 4 := ⟨gT_in (List.mem_of_getElem? (i := 992) (by decide +kernel)) (by decide +kernel), gT_in (List.mem_of_getElem? (i := 58) (by decide +kernel)) (by decide +kernel), by decide +kernel, by decide +kernel, by decide +kernel, by decide⟩
theorem mv_X4_doBring : MV yX4_doBring := ⟨gT_in (List.mem_of_getElem? (i := 991) (by decide +kernel)) (by decide +kernel), gT_in (List.mem_of_getElem? (i := 35) (by decide +kernel)) (by decide +kernel)⟩
theorem mi_X4_strike : MI yX4_strike cX4_strike 7 (some .int) 3 := ⟨gT_in (List.mem_of_getElem? (i := 996) (by decide +kernel)) (by decide +kernel), gT_in (List.mem_of_getElem? (i := 58) (by decide +kernel)) (by decide +kernel), by decide +kernel, by decide +kernel, by decide +kernel, by decide⟩
theorem mv_X4_strike : MV yX4_strike := ⟨gT_in (List.mem_of_getElem? (i := 994) (by decide +kernel)) (by decide +kernel), gT_in (List.mem_of_getElem? (i := 995) (by decide +kernel)) (by decide +kernel)⟩
theorem mi_X4_bits : MI yX4_bits cX4_bits 3 (some .int) 1 := ⟨gT_in (List.mem_of_getElem? (i := 999) (by decide +kernel)) (by decide +kernel), gT_in (List.mem_of_getElem? (i := 58) (by decide +kernel)) (by decide +kernel), by decide +kernel, by decide +kernel, by decide +kernel, by decide⟩
theorem ms_X4_bits : Cond.static yX4_bits ∈ gT := gT_in (List.mem_of_getElem? (i := 998) (by decide +kernel)) (by decide +kernel)
theorem mi_X4_isElsewhere : MI yX4_isElsewhere cX4_isElsewhere 6 (some .boolean) 4 := ⟨gT_in (List.mem_of_getElem? (i := 1003) (by decide +kernel)) (by decide +kernel), gT_in (List.mem_of_getElem? (i := 58) (by decide +kernel)) (by decide +kernel), by decide +kernel, by decide +kernel, by decide +kernel, by decide⟩
theorem mv_X4_isElsewhere : MV yX4_isElsewhere := ⟨gT_in (List.mem_of_getElem? (i := 1002) (by decide +kernel)) (by decide +kernel), gT_in (List.mem_of_getElem? (i := 36) (by decide +kernel)) (by decide +kernel)⟩
theorem mi_X4_fits : MI yX4_fits cX4_fits 6 (some .int) 2 := ⟨gT_in (List.mem_of_getElem? (i := 1007) (by decide +kernel)) (by decide +kernel), gT_in (List.mem_of_getElem? (i := 58) (by decide +kernel)) (by decide +kernel), by decide +kernel, by decide +kernel, by decide +kernel, by decide⟩
theorem mv_X4_fits : MV yX4_fits := ⟨gT_in (List.mem_of_getElem? (i := 1005) (by decide +kernel)) (by decide +kernel), gT_in (List.mem_of_getElem? (i := 1006) (by decide +kernel)) (by decide +kernel)⟩
theorem mi_X4_notThere : MI yX4_notThere cX4_notThere 2 (some .int) 1 := ⟨gT_in (List.mem_of_getElem? (i := 1011) (by decide +kernel)) (by decide +kernel), gT_in (List.mem_of_getElem? (i := 58) (by decide +kernel)) (by decide +kernel), by decide +kernel, by decide +kernel, by decide +kernel, by decide⟩
theorem mv_X4_notThere : MV yX4_notThere := ⟨gT_in (List.mem_of_getElem? (i := 1010) (by decide +kernel)) (by decide +kernel), gT_in (List.mem_of_getElem? (i := 37) (by decide +kernel)) (by decide +kernel)⟩
theorem mi_X4_isSheet : MI yX4_isSheet cX4_isSheet 1 (some .boolean) 1 := ⟨gT_in (List.mem_of_getElem? (i := 1014) (by decide +kernel)) (by decide +kernel), gT_in (List.mem_of_getElem? (i := 58) (by decide +kernel)) (by decide +kernel), by decide +kernel, by decide +kernel, by decide +kernel, by decide⟩
theorem ms_X4_isSheet : Cond.static yX4_isSheet ∈ gT := gT_in (List.mem_of_getElem? (i := 1013) (by decide +kernel)) (by decide +kernel)
theorem mi_X4_isTold : MI yX4_isTold cX4_isTold 6 (some .boolean) 2 := ⟨gT_in (List.mem_of_getElem? (i := 1019) (by decide +kernel)) (by decide +kernel), gT_in (List.mem_of_getElem? (i := 58) (by decide +kernel)) (by decide +kernel), by decide +kernel, by decide +kernel, by decide +kernel, by decide⟩
theorem mv_X4_isTold : MV yX4_isTold := ⟨gT_in (List.mem_of_getElem? (i := 1018) (by decide +kernel)) (by decide +kernel), gT_in (List.mem_of_getElem? (i := 38) (by decide +kernel)) (by decide +kernel)⟩
theorem mi_X4_kinds : MI yX4_kinds cX4_kinds 7 (some .int) 3 := ⟨gT_in (List.mem_of_getElem? (i := 1023) (by decide +kernel)) (by decide +kernel), gT_in (List.mem_of_getElem? (i := 58) (by decide +kernel)) (by decide +kernel), by decide +kernel, by decide +kernel, by decide +kernel, by decide⟩
theorem mv_X4_kinds : MV yX4_kinds := ⟨gT_in (List.mem_of_getElem? (i := 1021) (by decide +kernel)) (by decide +kernel), gT_in (List.mem_of_getElem? (i := 1022) (by decide +kernel)) (by decide +kernel)⟩
theorem mi_X4_coach : MI yX4_coach cX4_coach 4 (some .int) 1 := ⟨gT_in (List.mem_of_getElem? (i := 1027) (by decide +kernel)) (by decide +kernel), gT_in (List.mem_of_getElem? (i := 58) (by decide +kernel)) (by decide +kernel), by decide +kernel, by decide +kernel, by decide +kernel, by decide⟩
theorem mv_X4_coach : MV yX4_coach := ⟨gT_in (List.mem_of_getElem? (i := 1025) (by decide +kernel)) (by decide +kernel), gT_in (List.mem_of_getElem? (i := 1026) (by decide +kernel)) (by decide +kernel)⟩
theorem mi_X4_draw : MI yX4_draw cX4_draw 1 (some .int) 0 := ⟨gT_in (List.mem_of_getElem? (i := 1031) (by decide +kernel)) (by decide +kernel), gT_in (List.mem_of_getElem? (i := 58) (by decide +kernel)) (by decide +kernel), by decide +kernel, by decide +kernel, by decide +kernel, by decide⟩
theorem mv_X4_draw : MV yX4_draw := ⟨gT_in (List.mem_of_getElem? (i := 1030) (by decide +kernel)) (by decide +kernel), gT_in (List.mem_of_getElem? (i := 39) (by decide +kernel)) (by decide +kernel)⟩
theorem mi_X4_odds : MI yX4_odds cX4_odds 11 (some .long) 4 := ⟨gT_in (List.mem_of_getElem? (i := 1036) (by decide +kernel)) (by decide +kernel), gT_in (List.mem_of_getElem? (i := 58) (by decide +kernel)) (by decide +kernel), by decide +kernel, by decide +kernel, by decide +kernel, by decide⟩
theorem mv_X4_odds : MV yX4_odds := ⟨gT_in (List.mem_of_getElem? (i := 1034) (by decide +kernel)) (by decide +kernel), gT_in (List.mem_of_getElem? (i := 1035) (by decide +kernel)) (by decide +kernel)⟩
theorem mi_X4_seed : MI yX4_seed cX4_seed 2 (some .int) 1 := ⟨gT_in (List.mem_of_getElem? (i := 1040) (by decide +kernel)) (by decide +kernel), gT_in (List.mem_of_getElem? (i := 58) (by decide +kernel)) (by decide +kernel), by decide +kernel, by decide +kernel, by decide +kernel, by decide⟩
theorem mv_X4_seed : MV yX4_seed := ⟨gT_in (List.mem_of_getElem? (i := 1038) (by decide +kernel)) (by decide +kernel), gT_in (List.mem_of_getElem? (i := 1039) (by decide +kernel)) (by decide +kernel)⟩
theorem mi_X4_feed : MI yX4_feed cX4_feed 4 (some .int) 2 := ⟨gT_in (List.mem_of_getElem? (i := 1044) (by decide +kernel)) (by decide +kernel), gT_in (List.mem_of_getElem? (i := 58) (by decide +kernel)) (by decide +kernel), by decide +kernel, by decide +kernel, by decide +kernel, by decide⟩
theorem mv_X4_feed : MV yX4_feed := ⟨gT_in (List.mem_of_getElem? (i := 1042) (by decide +kernel)) (by decide +kernel), gT_in (List.mem_of_getElem? (i := 1043) (by decide +kernel)) (by decide +kernel)⟩
theorem mi_X4_wipe : MI yX4_wipe cX4_wipe 2 (some .int) 0 := ⟨gT_in (List.mem_of_getElem? (i := 1048) (by decide +kernel)) (by decide +kernel), gT_in (List.mem_of_getElem? (i := 58) (by decide +kernel)) (by decide +kernel), by decide +kernel, by decide +kernel, by decide +kernel, by decide⟩
theorem mv_X4_wipe : MV yX4_wipe := ⟨gT_in (List.mem_of_getElem? (i := 1046) (by decide +kernel)) (by decide +kernel), gT_in (List.mem_of_getElem? (i := 1047) (by decide +kernel)) (by decide +kernel)⟩
theorem mi_X4_text : MI yX4_text cX4_text 2 (some .int) 0 := ⟨gT_in (List.mem_of_getElem? (i := 1052) (by decide +kernel)) (by decide +kernel), gT_in (List.mem_of_getElem? (i := 58) (by decide +kernel)) (by decide +kernel), by decide +kernel, by decide +kernel, by decide +kernel, by decide⟩
theorem mv_X4_text : MV yX4_text := ⟨gT_in (List.mem_of_getElem? (i := 1050) (by decide +kernel)) (by decide +kernel), gT_in (List.mem_of_getElem? (i := 1051) (by decide +kernel)) (by decide +kernel)⟩
theorem mi_X4_reads : MI yX4_reads cX4_reads 1 none 0 := ⟨gT_in (List.mem_of_getElem? (i := 1056) (by decide +kernel)) (by decide +kernel), gT_in (List.mem_of_getElem? (i := 58) (by decide +kernel)) (by decide +kernel), by decide +kernel, by decide +kernel, by decide +kernel, by decide⟩
theorem mv_X4_reads : MV yX4_reads := ⟨gT_in (List.mem_of_getElem? (i := 1055) (by decide +kernel)) (by decide +kernel), gT_in (List.mem_of_getElem? (i := 40) (by decide +kernel)) (by decide +kernel)⟩
theorem mi_X4_isByte : MI yX4_isByte cX4_isByte 4 (some .boolean) 3 := ⟨gT_in (List.mem_of_getElem? (i := 1060) (by decide +kernel)) (by decide +kernel), gT_in (List.mem_of_getElem? (i := 58) (by decide +kernel)) (by decide +kernel), by decide +kernel, by decide +kernel, by decide +kernel, by decide⟩
theorem mv_X4_isByte : MV yX4_isByte := ⟨gT_in (List.mem_of_getElem? (i := 1059) (by decide +kernel)) (by decide +kernel), gT_in (List.mem_of_getElem? (i := 41) (by decide +kernel)) (by decide +kernel)⟩
theorem mi_X4_wordHere : MI yX4_wordHere cX4_wordHere 2 (some .int) 0 := ⟨gT_in (List.mem_of_getElem? (i := 1064) (by decide +kernel)) (by decide +kernel), gT_in (List.mem_of_getElem? (i := 58) (by decide +kernel)) (by decide +kernel), by decide +kernel, by decide +kernel, by decide +kernel, by decide⟩
theorem mv_X4_wordHere : MV yX4_wordHere := ⟨gT_in (List.mem_of_getElem? (i := 1063) (by decide +kernel)) (by decide +kernel), gT_in (List.mem_of_getElem? (i := 42) (by decide +kernel)) (by decide +kernel)⟩
theorem mi_X4_isName : MI yX4_isName cX4_isName 5 (some .boolean) 2 := ⟨gT_in (List.mem_of_getElem? (i := 1068) (by decide +kernel)) (by decide +kernel), gT_in (List.mem_of_getElem? (i := 58) (by decide +kernel)) (by decide +kernel), by decide +kernel, by decide +kernel, by decide +kernel, by decide⟩
theorem mv_X4_isName : MV yX4_isName := ⟨gT_in (List.mem_of_getElem? (i := 1067) (by decide +kernel)) (by decide +kernel), gT_in (List.mem_of_getElem? (i := 43) (by decide +kernel)) (by decide +kernel)⟩
theorem mi_X4_item : MI yX4_item cX4_item 1 none 0 := ⟨gT_in (List.mem_of_getElem? (i := 1074) (by decide +kernel)) (by decide +kernel), gT_in (List.mem_of_getElem? (i := 58) (by decide +kernel)) (by decide +kernel), by decide +kernel, by decide +kernel, by decide +kernel, by decide⟩
theorem mv_X4_item : MV yX4_item := ⟨gT_in (List.mem_of_getElem? (i := 1073) (by decide +kernel)) (by decide +kernel), gT_in (List.mem_of_getElem? (i := 44) (by decide +kernel)) (by decide +kernel)⟩
theorem mi_X4_dishItem : MI yX4_dishItem cX4_dishItem 8 none 0 := ⟨gT_in (List.mem_of_getElem? (i := 1078) (by decide +kernel)) (by decide +kernel), gT_in (List.mem_of_getElem? (i := 58) (by decide +kernel)) (by decide +kernel), by decide +kernel, by decide +kernel, by decide +kernel, by decide⟩
theorem mv_X4_dishItem : MV yX4_dishItem := ⟨gT_in (List.mem_of_getElem? (i := 1077) (by decide +kernel)) (by decide +kernel), gT_in (List.mem_of_getElem? (i := 45) (by decide +kernel)) (by decide +kernel)⟩
theorem mi_X4_number : MI yX4_number cX4_number 4 (some .int) 2 := ⟨gT_in (List.mem_of_getElem? (i := 1082) (by decide +kernel)) (by decide +kernel), gT_in (List.mem_of_getElem? (i := 58) (by decide +kernel)) (by decide +kernel), by decide +kernel, by decide +kernel, by decide +kernel, by decide⟩
theorem mv_X4_number : MV yX4_number := ⟨gT_in (List.mem_of_getElem? (i := 1081) (by decide +kernel)) (by decide +kernel), gT_in (List.mem_of_getElem? (i := 46) (by decide +kernel)) (by decide +kernel)⟩
theorem mi_X4_perhaps : MI yX4_perhaps cX4_perhaps 5 (some .int) 4 := ⟨gT_in (List.mem_of_getElem? (i := 1086) (by decide +kernel)) (by decide +kernel), gT_in (List.mem_of_getElem? (i := 58) (by decide +kernel)) (by decide +kernel), by decide +kernel, by decide +kernel, by decide +kernel, by decide⟩
theorem mv_X4_perhaps : MV yX4_perhaps := ⟨gT_in (List.mem_of_getElem? (i := 1085) (by decide +kernel)) (by decide +kernel), gT_in (List.mem_of_getElem? (i := 47) (by decide +kernel)) (by decide +kernel)⟩
theorem mi_X4_takes : MI yX4_takes cX4_takes 2 (some .boolean) 1 := ⟨gT_in (List.mem_of_getElem? (i := 1090) (by decide +kernel)) (by decide +kernel), gT_in (List.mem_of_getElem? (i := 58) (by decide +kernel)) (by decide +kernel), by decide +kernel, by decide +kernel, by decide +kernel, by decide⟩
theorem mv_X4_takes : MV yX4_takes := ⟨gT_in (List.mem_of_getElem? (i := 1089) (by decide +kernel)) (by decide +kernel), gT_in (List.mem_of_getElem? (i := 48) (by decide +kernel)) (by decide +kernel)⟩
theorem mi_X4_guestItem : MI yX4_guestItem cX4_guestItem 4 none 0 := ⟨gT_in (List.mem_of_getElem? (i := 1094) (by decide +kernel)) (by decide +kernel), gT_in (List.mem_of_getElem? (i := 58) (by decide +kernel)) (by decide +kernel), by decide +kernel, by decide +kernel, by decide +kernel, by decide⟩
theorem mv_X4_guestItem : MV yX4_guestItem := ⟨gT_in (List.mem_of_getElem? (i := 1093) (by decide +kernel)) (by decide +kernel), gT_in (List.mem_of_getElem? (i := 49) (by decide +kernel)) (by decide +kernel)⟩
theorem mi_X4_mealItem : MI yX4_mealItem cX4_mealItem 4 none 0 := ⟨gT_in (List.mem_of_getElem? (i := 1098) (by decide +kernel)) (by decide +kernel), gT_in (List.mem_of_getElem? (i := 58) (by decide +kernel)) (by decide +kernel), by decide +kernel, by decide +kernel, by decide +kernel, by decide⟩
theorem mv_X4_mealItem : MV yX4_mealItem := ⟨gT_in (List.mem_of_getElem? (i := 1097) (by decide +kernel)) (by decide +kernel), gT_in (List.mem_of_getElem? (i := 50) (by decide +kernel)) (by decide +kernel)⟩
theorem mi_X4_hold : MI yX4_hold cX4_hold 3 (some .int) 2 := ⟨gT_in (List.mem_of_getElem? (i := 1102) (by decide +kernel)) (by decide +kernel), gT_in (List.mem_of_getElem? (i := 58) (by decide +kernel)) (by decide +kernel), by decide +kernel, by decide +kernel, by decide +kernel, by decide⟩
theorem mv_X4_hold : MV yX4_hold := ⟨gT_in (List.mem_of_getElem? (i := 1100) (by decide +kernel)) (by decide +kernel), gT_in (List.mem_of_getElem? (i := 1101) (by decide +kernel)) (by decide +kernel)⟩
theorem mi_X4_as : MI yX4_as cX4_as 4 (some .int) 2 := ⟨gT_in (List.mem_of_getElem? (i := 1106) (by decide +kernel)) (by decide +kernel), gT_in (List.mem_of_getElem? (i := 58) (by decide +kernel)) (by decide +kernel), by decide +kernel, by decide +kernel, by decide +kernel, by decide⟩
theorem mv_X4_as : MV yX4_as := ⟨gT_in (List.mem_of_getElem? (i := 1104) (by decide +kernel)) (by decide +kernel), gT_in (List.mem_of_getElem? (i := 1105) (by decide +kernel)) (by decide +kernel)⟩
theorem mi_X4_isUnder : MI yX4_isUnder cX4_isUnder 3 (some .boolean) 2 := ⟨gT_in (List.mem_of_getElem? (i := 1109) (by decide +kernel)) (by decide +kernel), gT_in (List.mem_of_getElem? (i := 58) (by decide +kernel)) (by decide +kernel), by decide +kernel, by decide +kernel, by decide +kernel, by decide⟩
theorem ms_X4_isUnder : Cond.static yX4_isUnder ∈ gT := gT_in (List.mem_of_getElem? (i := 1108) (by decide +kernel)) (by decide +kernel)
theorem mi_X4_sheet : MI yX4_sheet cX4_sheet 5 (some .int) 3 := ⟨gT_in (List.mem_of_getElem? (i := 1114) (by decide +kernel)) (by decide +kernel), gT_in (List.mem_of_getElem? (i := 58) (by decide +kernel)) (by decide +kernel), by decide +kernel, by decide +kernel, by decide +kernel, by decide⟩
theorem mv_X4_sheet : MV yX4_sheet := ⟨gT_in (List.mem_of_getElem? (i := 1112) (by decide +kernel)) (by decide +kernel), gT_in (List.mem_of_getElem? (i := 1113) (by decide +kernel)) (by decide +kernel)⟩
theorem mi_X4_write : MI yX4_write cX4_write 5 (some .int) 3 := ⟨gT_in (List.mem_of_getElem? (i := 1119) (by decide +kernel)) (by decide +kernel), gT_in (List.mem_of_getElem? (i := 58) (by decide +kernel)) (by decide +kernel), by decide +kernel, by decide +kernel, by decide +kernel, by decide⟩
theorem mv_X4_write : MV yX4_write := ⟨gT_in (List.mem_of_getElem? (i := 1117) (by decide +kernel)) (by decide +kernel), gT_in (List.mem_of_getElem? (i := 1118) (by decide +kernel)) (by decide +kernel)⟩
theorem mi_X4_copy : MI yX4_copy cX4_copy 9 (some .int) 5 := ⟨gT_in (List.mem_of_getElem? (i := 1123) (by decide +kernel)) (by decide +kernel), gT_in (List.mem_of_getElem? (i := 58) (by decide +kernel)) (by decide +kernel), by decide +kernel, by decide +kernel, by decide +kernel, by decide⟩
theorem mv_X4_copy : MV yX4_copy := ⟨gT_in (List.mem_of_getElem? (i := 1121) (by decide +kernel)) (by decide +kernel), gT_in (List.mem_of_getElem? (i := 1122) (by decide +kernel)) (by decide +kernel)⟩
theorem mi_X4_notCopied : MI yX4_notCopied cX4_notCopied 7 (some .int) 5 := ⟨gT_in (List.mem_of_getElem? (i := 1127) (by decide +kernel)) (by decide +kernel), gT_in (List.mem_of_getElem? (i := 58) (by decide +kernel)) (by decide +kernel), by decide +kernel, by decide +kernel, by decide +kernel, by decide⟩
theorem mv_X4_notCopied : MV yX4_notCopied := ⟨gT_in (List.mem_of_getElem? (i := 1126) (by decide +kernel)) (by decide +kernel), gT_in (List.mem_of_getElem? (i := 51) (by decide +kernel)) (by decide +kernel)⟩
theorem mi_X4_load : MI yX4_load cX4_load 4 (some .int) 1 := ⟨gT_in (List.mem_of_getElem? (i := 1131) (by decide +kernel)) (by decide +kernel), gT_in (List.mem_of_getElem? (i := 58) (by decide +kernel)) (by decide +kernel), by decide +kernel, by decide +kernel, by decide +kernel, by decide⟩
theorem mv_X4_load : MV yX4_load := ⟨gT_in (List.mem_of_getElem? (i := 1129) (by decide +kernel)) (by decide +kernel), gT_in (List.mem_of_getElem? (i := 1130) (by decide +kernel)) (by decide +kernel)⟩
theorem mi_X4_judge : MI yX4_judge cX4_judge 4 (some .int) 1 := ⟨gT_in (List.mem_of_getElem? (i := 1135) (by decide +kernel)) (by decide +kernel), gT_in (List.mem_of_getElem? (i := 58) (by decide +kernel)) (by decide +kernel), by decide +kernel, by decide +kernel, by decide +kernel, by decide⟩
theorem mv_X4_judge : MV yX4_judge := ⟨gT_in (List.mem_of_getElem? (i := 1133) (by decide +kernel)) (by decide +kernel), gT_in (List.mem_of_getElem? (i := 1134) (by decide +kernel)) (by decide +kernel)⟩
theorem mi_X4_image : MI yX4_image cX4_image 1 (some .int) 0 := ⟨gT_in (List.mem_of_getElem? (i := 1139) (by decide +kernel)) (by decide +kernel), gT_in (List.mem_of_getElem? (i := 58) (by decide +kernel)) (by decide +kernel), by decide +kernel, by decide +kernel, by decide +kernel, by decide⟩
theorem mv_X4_image : MV yX4_image := ⟨gT_in (List.mem_of_getElem? (i := 1137) (by decide +kernel)) (by decide +kernel), gT_in (List.mem_of_getElem? (i := 1138) (by decide +kernel)) (by decide +kernel)⟩
theorem mi_X4_undo : MI yX4_undo cX4_undo 1 (some .int) 0 := ⟨gT_in (List.mem_of_getElem? (i := 1143) (by decide +kernel)) (by decide +kernel), gT_in (List.mem_of_getElem? (i := 58) (by decide +kernel)) (by decide +kernel), by decide +kernel, by decide +kernel, by decide +kernel, by decide⟩
theorem mv_X4_undo : MV yX4_undo := ⟨gT_in (List.mem_of_getElem? (i := 1141) (by decide +kernel)) (by decide +kernel), gT_in (List.mem_of_getElem? (i := 1142) (by decide +kernel)) (by decide +kernel)⟩
theorem mi_X4_tear : MI yX4_tear cX4_tear 2 (some .int) 0 := ⟨gT_in (List.mem_of_getElem? (i := 1147) (by decide +kernel)) (by decide +kernel), gT_in (List.mem_of_getElem? (i := 58) (by decide +kernel)) (by decide +kernel), by decide +kernel, by decide +kernel, by decide +kernel, by decide⟩
theorem mv_X4_tear : MV yX4_tear := ⟨gT_in (List.mem_of_getElem? (i := 1145) (by decide +kernel)) (by decide +kernel), gT_in (List.mem_of_getElem? (i := 1146) (by decide +kernel)) (by decide +kernel)⟩
theorem mi_X4_count : MI yX4_count cX4_count 2 (some .int) 1 := ⟨gT_in (List.mem_of_getElem? (i := 1151) (by decide +kernel)) (by decide +kernel), gT_in (List.mem_of_getElem? (i := 58) (by decide +kernel)) (by decide +kernel), by decide +kernel, by decide +kernel, by decide +kernel, by decide⟩
theorem mv_X4_count : MV yX4_count := ⟨gT_in (List.mem_of_getElem? (i := 1149) (by decide +kernel)) (by decide +kernel), gT_in (List.mem_of_getElem? (i := 1150) (by decide +kernel)) (by decide +kernel)⟩
theorem mi_X4_manyHeld : MI yX4_manyHeld cX4_manyHeld 3 (some .int) 0 := ⟨gT_in (List.mem_of_getElem? (i := 1155) (by decide +kernel)) (by decide +kernel), gT_in (List.mem_of_getElem? (i := 58) (by decide +kernel)) (by decide +kernel), by decide +kernel, by decide +kernel, by decide +kernel, by decide⟩
theorem mv_X4_manyHeld : MV yX4_manyHeld := ⟨gT_in (List.mem_of_getElem? (i := 1154) (by decide +kernel)) (by decide +kernel), gT_in (List.mem_of_getElem? (i := 52) (by decide +kernel)) (by decide +kernel)⟩
theorem mi_X4_status : MI yX4_status cX4_status 4 (some .int) 1 := ⟨gT_in (List.mem_of_getElem? (i := 1159) (by decide +kernel)) (by decide +kernel), gT_in (List.mem_of_getElem? (i := 58) (by decide +kernel)) (by decide +kernel), by decide +kernel, by decide +kernel, by decide +kernel, by decide⟩
theorem mv_X4_status : MV yX4_status := ⟨gT_in (List.mem_of_getElem? (i := 1157) (by decide +kernel)) (by decide +kernel), gT_in (List.mem_of_getElem? (i := 1158) (by decide +kernel)) (by decide +kernel)⟩
theorem mm_I : Cond.initialized "java/lang/Math" ∈ gT := gT_in (List.mem_of_getElem? (i := 59) (by decide +kernel)) (by decide +kernel)
theorem ml_L_9 : Cond.methodLink RL 9 yX3_init ∈ gT := gT_in (List.mem_of_getElem? (i := 68) (by decide +kernel)) (by decide +kernel)
theorem ml_X3_11 : Cond.methodLink RX3 11 yX0_init ∈ gT := gT_in (List.mem_of_getElem? (i := 76) (by decide +kernel)) (by decide +kernel)
theorem ml_X3_24 : Cond.methodLink RX3 24 yX2_init ∈ gT := gT_in (List.mem_of_getElem? (i := 116) (by decide +kernel)) (by decide +kernel)
theorem ml_X3_35 : Cond.methodLink RX3 35 yX1_init ∈ gT := gT_in (List.mem_of_getElem? (i := 144) (by decide +kernel)) (by decide +kernel)
theorem ml_L_13 : Cond.methodLink RL 13 yX3_list ∈ gT := gT_in (List.mem_of_getElem? (i := 183) (by decide +kernel)) (by decide +kernel)
theorem ml_X3_44 : Cond.methodLink RX3 44 yX3_isPlace ∈ gT := gT_in (List.mem_of_getElem? (i := 187) (by decide +kernel)) (by decide +kernel)
theorem ml_X3_48 : Cond.methodLink RX3 48 yX3_within ∈ gT := gT_in (List.mem_of_getElem? (i := 190) (by decide +kernel)) (by decide +kernel)
theorem ml_X3_53 : Cond.methodLink RX3 53 yX3_found ∈ gT := gT_in (List.mem_of_getElem? (i := 194) (by decide +kernel)) (by decide +kernel)
theorem ml_X3_60 : Cond.methodLink RX3 60 yX0_planMeal ∈ gT := gT_in (List.mem_of_getElem? (i := 198) (by decide +kernel)) (by decide +kernel)
theorem ml_L_18 : Cond.methodLink RL 18 yX3_listed ∈ gT := gT_in (List.mem_of_getElem? (i := 202) (by decide +kernel)) (by decide +kernel)
theorem ml_L_23 : Cond.methodLink RL 23 yX3_dish ∈ gT := gT_in (List.mem_of_getElem? (i := 206) (by decide +kernel)) (by decide +kernel)
theorem ml_X3_64 : Cond.methodLink RX3 64 yX3_isKind ∈ gT := gT_in (List.mem_of_getElem? (i := 210) (by decide +kernel)) (by decide +kernel)
theorem ml_X3_67 : Cond.methodLink RX3 67 yX3_isTown ∈ gT := gT_in (List.mem_of_getElem? (i := 213) (by decide +kernel)) (by decide +kernel)
theorem ml_X3_75 : Cond.methodLink RX3 75 yX0_addDish ∈ gT := gT_in (List.mem_of_getElem? (i := 217) (by decide +kernel)) (by decide +kernel)
theorem ml_X0_47 : Cond.methodLink RX0 47 yX0_putDishFact ∈ gT := gT_in (List.mem_of_getElem? (i := 221) (by decide +kernel)) (by decide +kernel)
theorem ml_L_27 : Cond.methodLink RL 27 yX3_guest ∈ gT := gT_in (List.mem_of_getElem? (i := 225) (by decide +kernel)) (by decide +kernel)
theorem ml_X3_79 : Cond.methodLink RX3 79 yX3_isBent ∈ gT := gT_in (List.mem_of_getElem? (i := 229) (by decide +kernel)) (by decide +kernel)
theorem ml_X3_85 : Cond.methodLink RX3 85 yX0_addGuest ∈ gT := gT_in (List.mem_of_getElem? (i := 232) (by decide +kernel)) (by decide +kernel)
theorem ml_X0_51 : Cond.methodLink RX0 51 yX0_putGuestFact ∈ gT := gT_in (List.mem_of_getElem? (i := 236) (by decide +kernel)) (by decide +kernel)
theorem ml_L_31 : Cond.methodLink RL 31 yX3_of ∈ gT := gT_in (List.mem_of_getElem? (i := 240) (by decide +kernel)) (by decide +kernel)
theorem ml_X3_88 : Cond.methodLink RX3 88 yX0_isDish ∈ gT := gT_in (List.mem_of_getElem? (i := 244) (by decide +kernel)) (by decide +kernel)
theorem ml_X3_91 : Cond.methodLink RX3 91 yX0_dishFact ∈ gT := gT_in (List.mem_of_getElem? (i := 248) (by decide +kernel)) (by decide +kernel)
theorem ml_L_36 : Cond.methodLink RL 36 yX3_change ∈ gT := gT_in (List.mem_of_getElem? (i := 252) (by decide +kernel)) (by decide +kernel)
theorem ml_X3_98 : Cond.methodLink RX3 98 yX0_putDishFact ∈ gT := gT_in (List.mem_of_getElem? (i := 258) (by decide +kernel)) (by decide +kernel)
theorem ml_L_40 : Cond.methodLink RL 40 yX3_ofGuest ∈ gT := gT_in (List.mem_of_getElem? (i := 259) (by decide +kernel)) (by decide +kernel)
theorem ml_X3_101 : Cond.methodLink RX3 101 yX0_isGuest ∈ gT := gT_in (List.mem_of_getElem? (i := 263) (by decide +kernel)) (by decide +kernel)
theorem ml_X3_104 : Cond.methodLink RX3 104 yX3_isGuestFact ∈ gT := gT_in (List.mem_of_getElem? (i := 267) (by decide +kernel)) (by decide +kernel)
theorem ml_X3_107 : Cond.methodLink RX3 107 yX0_guestFact ∈ gT := gT_in (List.mem_of_getElem? (i := 270) (by decide +kernel)) (by decide +kernel)
theorem ml_L_44 : Cond.methodLink RL 44 yX3_seat ∈ gT := gT_in (List.mem_of_getElem? (i := 274) (by decide +kernel)) (by decide +kernel)
theorem ml_X3_113 : Cond.methodLink RX3 113 yX0_putGuestFact ∈ gT := gT_in (List.mem_of_getElem? (i := 280) (by decide +kernel)) (by decide +kernel)
theorem ml_L_48 : Cond.methodLink RL 48 yX3_would ∈ gT := gT_in (List.mem_of_getElem? (i := 281) (by decide +kernel)) (by decide +kernel)
theorem ml_X3_116 : Cond.methodLink RX3 116 yX0_takesLeft ∈ gT := gT_in (List.mem_of_getElem? (i := 285) (by decide +kernel)) (by decide +kernel)
theorem ml_X0_57 : Cond.methodLink RX0 57 yX0_guestFact ∈ gT := gT_in (List.mem_of_getElem? (i := 289) (by decide +kernel)) (by decide +kernel)
theorem ml_X0_43 : Cond.methodLink RX0 43 yX0_dishFact ∈ gT := gT_in (List.mem_of_getElem? (i := 290) (by decide +kernel)) (by decide +kernel)
theorem ml_X0_60 : Cond.methodLink RX0 60 yX0_anotherIsFor ∈ gT := gT_in (List.mem_of_getElem? (i := 291) (by decide +kernel)) (by decide +kernel)
theorem ml_X3_120 : Cond.methodLink RX3 120 yX0_costOf ∈ gT := gT_in (List.mem_of_getElem? (i := 295) (by decide +kernel)) (by decide +kernel)
theorem ml_X0_64 : Cond.methodLink RX0 64 Lib.Math.max.name ∈ gT := gT_in (List.mem_of_getElem? (i := 299) (by decide +kernel)) (by decide +kernel)
theorem ml_X3_124 : Cond.methodLink RX3 124 yX0_bendOf ∈ gT := gT_in (List.mem_of_getElem? (i := 302) (by decide +kernel)) (by decide +kernel)
theorem ml_X3_128 : Cond.methodLink RX3 128 yX0_townOf ∈ gT := gT_in (List.mem_of_getElem? (i := 305) (by decide +kernel)) (by decide +kernel)
theorem ml_L_52 : Cond.methodLink RL 52 yX3_eat ∈ gT := gT_in (List.mem_of_getElem? (i := 309) (by decide +kernel)) (by decide +kernel)
theorem ml_X3_131 : Cond.methodLink RX3 131 yX0_isOff ∈ gT := gT_in (List.mem_of_getElem? (i := 313) (by decide +kernel)) (by decide +kernel)
theorem ml_X3_135 : Cond.methodLink RX3 135 yX0_haveMeal ∈ gT := gT_in (List.mem_of_getElem? (i := 318) (by decide +kernel)) (by decide +kernel)
theorem ml_X0_72 : Cond.methodLink RX0 72 yX0_takesLeft ∈ gT := gT_in (List.mem_of_getElem? (i := 322) (by decide +kernel)) (by decide +kernel)
theorem ml_X0_75 : Cond.methodLink RX0 75 yX0_townOf ∈ gT := gT_in (List.mem_of_getElem? (i := 323) (by decide +kernel)) (by decide +kernel)
theorem ml_X0_79 : Cond.methodLink RX0 79 yX0_costOf ∈ gT := gT_in (List.mem_of_getElem? (i := 324) (by decide +kernel)) (by decide +kernel)
theorem ml_X0_69 : Cond.methodLink RX0 69 Lib.Math.min.name ∈ gT := gT_in (List.mem_of_getElem? (i := 326) (by decide +kernel)) (by decide +kernel)
theorem ml_X0_84 : Cond.methodLink RX0 84 yX0_bendOf ∈ gT := gT_in (List.mem_of_getElem? (i := 329) (by decide +kernel)) (by decide +kernel)
theorem ml_X0_87 : Cond.methodLink RX0 87 yX0_bendGuest ∈ gT := gT_in (List.mem_of_getElem? (i := 330) (by decide +kernel)) (by decide +kernel)
theorem ml_X0_91 : Cond.methodLink RX0 91 yX0_serveOnce ∈ gT := gT_in (List.mem_of_getElem? (i := 334) (by decide +kernel)) (by decide +kernel)
theorem ml_L_56 : Cond.methodLink RL 56 yX3_go ∈ gT := gT_in (List.mem_of_getElem? (i := 338) (by decide +kernel)) (by decide +kernel)
theorem ml_X3_143 : Cond.methodLink RX3 143 yX0_passDays ∈ gT := gT_in (List.mem_of_getElem? (i := 343) (by decide +kernel)) (by decide +kernel)
theorem ml_X0_115 : Cond.methodLink RX0 115 yX0_passDay ∈ gT := gT_in (List.mem_of_getElem? (i := 347) (by decide +kernel)) (by decide +kernel)
theorem ml_X0_95 : Cond.methodLink RX0 95 yX0_guestOfMeal ∈ gT := gT_in (List.mem_of_getElem? (i := 351) (by decide +kernel)) (by decide +kernel)
theorem ml_X0_99 : Cond.methodLink RX0 99 yX0_dishOfMeal ∈ gT := gT_in (List.mem_of_getElem? (i := 354) (by decide +kernel)) (by decide +kernel)
theorem ml_X0_102 : Cond.methodLink RX0 102 yX0_isGuest ∈ gT := gT_in (List.mem_of_getElem? (i := 357) (by decide +kernel)) (by decide +kernel)
theorem ml_X0_106 : Cond.methodLink RX0 106 yX0_isDish ∈ gT := gT_in (List.mem_of_getElem? (i := 358) (by decide +kernel)) (by decide +kernel)
theorem ml_X0_109 : Cond.methodLink RX0 109 yX0_isOff ∈ gT := gT_in (List.mem_of_getElem? (i := 359) (by decide +kernel)) (by decide +kernel)
theorem ml_X0_112 : Cond.methodLink RX0 112 yX0_haveMeal ∈ gT := gT_in (List.mem_of_getElem? (i := 360) (by decide +kernel)) (by decide +kernel)
theorem ml_X3_147 : Cond.methodLink RX3 147 yX0_billSum ∈ gT := gT_in (List.mem_of_getElem? (i := 361) (by decide +kernel)) (by decide +kernel)
theorem ml_L_60 : Cond.methodLink RL 60 yX3_now ∈ gT := gT_in (List.mem_of_getElem? (i := 365) (by decide +kernel)) (by decide +kernel)
theorem ml_X3_151 : Cond.methodLink RX3 151 yX0_townsAimedAt ∈ gT := gT_in (List.mem_of_getElem? (i := 369) (by decide +kernel)) (by decide +kernel)
theorem ml_X3_154 : Cond.methodLink RX3 154 yX0_townsBeenIn ∈ gT := gT_in (List.mem_of_getElem? (i := 373) (by decide +kernel)) (by decide +kernel)
theorem ml_X3_157 : Cond.methodLink RX3 157 yX0_servedSum ∈ gT := gT_in (List.mem_of_getElem? (i := 377) (by decide +kernel)) (by decide +kernel)
theorem ml_X3_160 : Cond.methodLink RX3 160 yX0_partedPairs ∈ gT := gT_in (List.mem_of_getElem? (i := 381) (by decide +kernel)) (by decide +kernel)
theorem ml_X3_163 : Cond.methodLink RX3 163 yX0_dishesOnCard ∈ gT := gT_in (List.mem_of_getElem? (i := 385) (by decide +kernel)) (by decide +kernel)
theorem ml_X3_166 : Cond.methodLink RX3 166 yX0_deepestInDebt ∈ gT := gT_in (List.mem_of_getElem? (i := 389) (by decide +kernel)) (by decide +kernel)
theorem ml_L_64 : Cond.methodLink RL 64 yX3_ahead ∈ gT := gT_in (List.mem_of_getElem? (i := 393) (by decide +kernel)) (by decide +kernel)
theorem ml_X3_169 : Cond.methodLink RX3 169 yX0_become ∈ gT := gT_in (List.mem_of_getElem? (i := 397) (by decide +kernel)) (by decide +kernel)
theorem ml_X0_28 : Cond.methodLink RX0 28 arraycopyName ∈ gT := gT_in (List.mem_of_getElem? (i := 401) (by decide +kernel)) (by decide +kernel)
theorem ml_L_68 : Cond.methodLink RL 68 yX3_served ∈ gT := gT_in (List.mem_of_getElem? (i := 404) (by decide +kernel)) (by decide +kernel)
theorem ml_L_72 : Cond.methodLink RL 72 yX3_when ∈ gT := gT_in (List.mem_of_getElem? (i := 408) (by decide +kernel)) (by decide +kernel)
theorem ml_X3_173 : Cond.methodLink RX3 173 yX0_passDay ∈ gT := gT_in (List.mem_of_getElem? (i := 412) (by decide +kernel)) (by decide +kernel)
theorem ml_L_76 : Cond.methodLink RL 76 yX3_owes ∈ gT := gT_in (List.mem_of_getElem? (i := 414) (by decide +kernel)) (by decide +kernel)
theorem ml_L_80 : Cond.methodLink RL 80 yX3_part ∈ gT := gT_in (List.mem_of_getElem? (i := 418) (by decide +kernel)) (by decide +kernel)
theorem ml_L_84 : Cond.methodLink RL 84 yX3_dishFor ∈ gT := gT_in (List.mem_of_getElem? (i := 422) (by decide +kernel)) (by decide +kernel)
theorem ml_X3_177 : Cond.methodLink RX3 177 yX0_guestOfMeal ∈ gT := gT_in (List.mem_of_getElem? (i := 426) (by decide +kernel)) (by decide +kernel)
theorem ml_L_88 : Cond.methodLink RL 88 yX3_kindFor ∈ gT := gT_in (List.mem_of_getElem? (i := 428) (by decide +kernel)) (by decide +kernel)
theorem ml_L_92 : Cond.methodLink RL 92 yX3_bentFor ∈ gT := gT_in (List.mem_of_getElem? (i := 432) (by decide +kernel)) (by decide +kernel)
theorem ml_L_96 : Cond.methodLink RL 96 yX3_courses ∈ gT := gT_in (List.mem_of_getElem? (i := 436) (by decide +kernel)) (by decide +kernel)
theorem ml_X3_181 : Cond.methodLink RX3 181 yX3_leadsTo ∈ gT := gT_in (List.mem_of_getElem? (i := 440) (by decide +kernel)) (by decide +kernel)
theorem ml_X3_273 : Cond.methodLink RX3 273 yX3_leadsToBy ∈ gT := gT_in (List.mem_of_getElem? (i := 444) (by decide +kernel)) (by decide +kernel)
theorem ml_X3_276 : Cond.methodLink RX3 276 yX0_bendGuest ∈ gT := gT_in (List.mem_of_getElem? (i := 448) (by decide +kernel)) (by decide +kernel)
theorem ml_X3_279 : Cond.methodLink RX3 279 yX0_serveOnce ∈ gT := gT_in (List.mem_of_getElem? (i := 449) (by decide +kernel)) (by decide +kernel)
theorem ml_L_100 : Cond.methodLink RL 100 yX3_strike ∈ gT := gT_in (List.mem_of_getElem? (i := 450) (by decide +kernel)) (by decide +kernel)
theorem ml_X3_184 : Cond.methodLink RX3 184 yJ6_bitCount_0f7a4 ∈ gT := gT_in (List.mem_of_getElem? (i := 454) (by decide +kernel)) (by decide +kernel)
theorem ml_X3_189 : Cond.methodLink RX3 189 yX3_keepsAway ∈ gT := gT_in (List.mem_of_getElem? (i := 460) (by decide +kernel)) (by decide +kernel)
theorem ml_L_104 : Cond.methodLink RL 104 yX3_fits ∈ gT := gT_in (List.mem_of_getElem? (i := 464) (by decide +kernel)) (by decide +kernel)
theorem ml_X3_193 : Cond.methodLink RX3 193 yX3_sheetTrouble ∈ gT := gT_in (List.mem_of_getElem? (i := 468) (by decide +kernel)) (by decide +kernel)
theorem ml_X3_235 : Cond.methodLink RX3 235 yX3_isSheet ∈ gT := gT_in (List.mem_of_getElem? (i := 472) (by decide +kernel)) (by decide +kernel)
theorem ml_X3_246 : Cond.methodLink RX3 246 yX1_isMissing ∈ gT := gT_in (List.mem_of_getElem? (i := 475) (by decide +kernel)) (by decide +kernel)
theorem ml_X3_196 : Cond.methodLink RX3 196 yX3_goesAsTold ∈ gT := gT_in (List.mem_of_getElem? (i := 480) (by decide +kernel)) (by decide +kernel)
theorem ml_L_108 : Cond.methodLink RL 108 yX3_kinds ∈ gT := gT_in (List.mem_of_getElem? (i := 484) (by decide +kernel)) (by decide +kernel)
theorem ml_L_112 : Cond.methodLink RL 112 yX3_coach ∈ gT := gT_in (List.mem_of_getElem? (i := 488) (by decide +kernel)) (by decide +kernel)
theorem ml_X3_200 : Cond.methodLink RX3 200 yX0_drawNumber ∈ gT := gT_in (List.mem_of_getElem? (i := 492) (by decide +kernel)) (by decide +kernel)
theorem ml_L_116 : Cond.methodLink RL 116 yX3_odds ∈ gT := gT_in (List.mem_of_getElem? (i := 497) (by decide +kernel)) (by decide +kernel)
theorem ml_X3_203 : Cond.methodLink RX3 203 yX3_sharedWithAllBents ∈ gT := gT_in (List.mem_of_getElem? (i := 501) (by decide +kernel)) (by decide +kernel)
theorem ml_X3_206 : Cond.methodLink RX3 206 yX3_power ∈ gT := gT_in (List.mem_of_getElem? (i := 504) (by decide +kernel)) (by decide +kernel)
theorem ml_L_121 : Cond.methodLink RL 121 yX3_seed ∈ gT := gT_in (List.mem_of_getElem? (i := 507) (by decide +kernel)) (by decide +kernel)
theorem ml_L_125 : Cond.methodLink RL 125 yX3_feed ∈ gT := gT_in (List.mem_of_getElem? (i := 511) (by decide +kernel)) (by decide +kernel)
theorem ml_X3_216 : Cond.methodLink RX3 216 yX2_addByte ∈ gT := gT_in (List.mem_of_getElem? (i := 515) (by decide +kernel)) (by decide +kernel)
theorem ml_L_129 : Cond.methodLink RL 129 yX3_wipe ∈ gT := gT_in (List.mem_of_getElem? (i := 519) (by decide +kernel)) (by decide +kernel)
theorem ml_L_134 : Cond.methodLink RL 134 yX3_text ∈ gT := gT_in (List.mem_of_getElem? (i := 523) (by decide +kernel)) (by decide +kernel)
theorem ml_X3_220 : Cond.methodLink RX3 220 yX2_readText ∈ gT := gT_in (List.mem_of_getElem? (i := 527) (by decide +kernel)) (by decide +kernel)
theorem ml_X2_20 : Cond.methodLink RX2 20 yX2_nextToken ∈ gT := gT_in (List.mem_of_getElem? (i := 531) (by decide +kernel)) (by decide +kernel)
theorem ml_X2_121 : Cond.methodLink RX2 121 yX2_tokenBegunBy ∈ gT := gT_in (List.mem_of_getElem? (i := 535) (by decide +kernel)) (by decide +kernel)
theorem ml_X2_23 : Cond.methodLink RX2 23 yX2_readItem ∈ gT := gT_in (List.mem_of_getElem? (i := 538) (by decide +kernel)) (by decide +kernel)
theorem ml_X2_35 : Cond.methodLink RX2 35 yX2_isWord ∈ gT := gT_in (List.mem_of_getElem? (i := 543) (by decide +kernel)) (by decide +kernel)
theorem ml_X2_98 : Cond.methodLink RX2 98 yJ0_length_8abf5 ∈ gT := gT_in (List.mem_of_getElem? (i := 547) (by decide +kernel)) (by decide +kernel)
theorem ml_J0_335 : Cond.methodLink RJ0 335 yJ0_coder_7d493 ∈ gT := gT_in (List.mem_of_getElem? (i := 551) (by decide +kernel)) (by decide +kernel)
theorem ml_X2_103 : Cond.methodLink RX2 103 yJ0_charAt_5068e ∈ gT := gT_in (List.mem_of_getElem? (i := 557) (by decide +kernel)) (by decide +kernel)
theorem ml_J0_492 : Cond.methodLink RJ0 492 yJ0_isLatin1_aae02 ∈ gT := gT_in (List.mem_of_getElem? (i := 561) (by decide +kernel)) (by decide +kernel)
theorem ml_J0_495 : Cond.methodLink RJ0 495 yJ1_charAt_3b067 ∈ gT := gT_in (List.mem_of_getElem? (i := 565) (by decide +kernel)) (by decide +kernel)
theorem ml_J1_9 : Cond.methodLink RJ1 9 yJ0_checkIndex_df160 ∈ gT := gT_in (List.mem_of_getElem? (i := 568) (by decide +kernel)) (by decide +kernel)
theorem ml_J0_1059 : Cond.methodLink RJ0 1059 yJ3_checkIndex_8e157 ∈ gT := gT_in (List.mem_of_getElem? (i := 573) (by decide +kernel)) (by decide +kernel)
theorem ml_J0_498 : Cond.methodLink RJ0 498 yJ2_charAt_3b067 ∈ gT := gT_in (List.mem_of_getElem? (i := 576) (by decide +kernel)) (by decide +kernel)
theorem ml_J2_67 : Cond.methodLink RJ2 67 yJ2_checkIndex_2214a ∈ gT := gT_in (List.mem_of_getElem? (i := 579) (by decide +kernel)) (by decide +kernel)
theorem ml_J2_48 : Cond.methodLink RJ2 48 yJ2_length_9d52b ∈ gT := gT_in (List.mem_of_getElem? (i := 582) (by decide +kernel)) (by decide +kernel)
theorem ml_J2_414 : Cond.methodLink RJ2 414 yJ0_checkIndex_df160 ∈ gT := gT_in (List.mem_of_getElem? (i := 585) (by decide +kernel)) (by decide +kernel)
theorem ml_J2_71 : Cond.methodLink RJ2 71 yJ2_getChar_3b067 ∈ gT := gT_in (List.mem_of_getElem? (i := 586) (by decide +kernel)) (by decide +kernel)
theorem ml_X2_39 : Cond.methodLink RX2 39 yX2_readGuest ∈ gT := gT_in (List.mem_of_getElem? (i := 595) (by decide +kernel)) (by decide +kernel)
theorem ml_X2_60 : Cond.methodLink RX2 60 yX2_takeNumber ∈ gT := gT_in (List.mem_of_getElem? (i := 599) (by decide +kernel)) (by decide +kernel)
theorem ml_X2_66 : Cond.methodLink RX2 66 yX2_takeWord ∈ gT := gT_in (List.mem_of_getElem? (i := 604) (by decide +kernel)) (by decide +kernel)
theorem ml_X2_86 : Cond.methodLink RX2 86 yX0_addGuest ∈ gT := gT_in (List.mem_of_getElem? (i := 608) (by decide +kernel)) (by decide +kernel)
theorem ml_X2_89 : Cond.methodLink RX2 89 yX0_putGuestFact ∈ gT := gT_in (List.mem_of_getElem? (i := 609) (by decide +kernel)) (by decide +kernel)
theorem ml_X2_44 : Cond.methodLink RX2 44 yX2_readMeal ∈ gT := gT_in (List.mem_of_getElem? (i := 611) (by decide +kernel)) (by decide +kernel)
theorem ml_X2_92 : Cond.methodLink RX2 92 yX0_planMeal ∈ gT := gT_in (List.mem_of_getElem? (i := 615) (by decide +kernel)) (by decide +kernel)
theorem ml_X2_49 : Cond.methodLink RX2 49 yX2_wordOf ∈ gT := gT_in (List.mem_of_getElem? (i := 616) (by decide +kernel)) (by decide +kernel)
theorem ml_X2_53 : Cond.methodLink RX2 53 yX2_readDish ∈ gT := gT_in (List.mem_of_getElem? (i := 626) (by decide +kernel)) (by decide +kernel)
theorem ml_X2_71 : Cond.methodLink RX2 71 yX0_addDish ∈ gT := gT_in (List.mem_of_getElem? (i := 632) (by decide +kernel)) (by decide +kernel)
theorem ml_X2_75 : Cond.methodLink RX2 75 yX0_putDishFact ∈ gT := gT_in (List.mem_of_getElem? (i := 633) (by decide +kernel)) (by decide +kernel)
theorem ml_L_138 : Cond.methodLink RL 138 yX3_hold ∈ gT := gT_in (List.mem_of_getElem? (i := 635) (by decide +kernel)) (by decide +kernel)
theorem ml_X3_224 : Cond.methodLink RX3 224 yX3_isSpot ∈ gT := gT_in (List.mem_of_getElem? (i := 639) (by decide +kernel)) (by decide +kernel)
theorem ml_L_142 : Cond.methodLink RL 142 yX3_as ∈ gT := gT_in (List.mem_of_getElem? (i := 642) (by decide +kernel)) (by decide +kernel)
theorem ml_X3_231 : Cond.methodLink RX3 231 yX0_isUnder ∈ gT := gT_in (List.mem_of_getElem? (i := 646) (by decide +kernel)) (by decide +kernel)
theorem ml_L_146 : Cond.methodLink RL 146 yX3_sheet ∈ gT := gT_in (List.mem_of_getElem? (i := 652) (by decide +kernel)) (by decide +kernel)
theorem ml_X3_239 : Cond.methodLink RX3 239 yX1_start ∈ gT := gT_in (List.mem_of_getElem? (i := 657) (by decide +kernel)) (by decide +kernel)
theorem ml_L_150 : Cond.methodLink RL 150 yX3_write ∈ gT := gT_in (List.mem_of_getElem? (i := 661) (by decide +kernel)) (by decide +kernel)
theorem ml_X3_243 : Cond.methodLink RX3 243 yX1_put ∈ gT := gT_in (List.mem_of_getElem? (i := 665) (by decide +kernel)) (by decide +kernel)
theorem ml_L_154 : Cond.methodLink RL 154 yX3_copy ∈ gT := gT_in (List.mem_of_getElem? (i := 669) (by decide +kernel)) (by decide +kernel)
theorem ml_X3_253 : Cond.methodLink RX3 253 yX1_hasRange ∈ gT := gT_in (List.mem_of_getElem? (i := 673) (by decide +kernel)) (by decide +kernel)
theorem ml_X3_259 : Cond.methodLink RX3 259 arraycopyName ∈ gT := gT_in (List.mem_of_getElem? (i := 677) (by decide +kernel)) (by decide +kernel)
theorem ml_L_159 : Cond.methodLink RL 159 yX3_load ∈ gT := gT_in (List.mem_of_getElem? (i := 678) (by decide +kernel)) (by decide +kernel)
theorem ml_X3_265 : Cond.methodLink RX3 265 Lib.Math.min.name ∈ gT := gT_in (List.mem_of_getElem? (i := 682) (by decide +kernel)) (by decide +kernel)
theorem ml_L_163 : Cond.methodLink RL 163 yX3_judge ∈ gT := gT_in (List.mem_of_getElem? (i := 683) (by decide +kernel)) (by decide +kernel)
theorem ml_L_167 : Cond.methodLink RL 167 yX3_image ∈ gT := gT_in (List.mem_of_getElem? (i := 687) (by decide +kernel)) (by decide +kernel)
theorem ml_L_171 : Cond.methodLink RL 171 yX3_undo ∈ gT := gT_in (List.mem_of_getElem? (i := 691) (by decide +kernel)) (by decide +kernel)
theorem ml_L_175 : Cond.methodLink RL 175 yX3_tear ∈ gT := gT_in (List.mem_of_getElem? (i := 695) (by decide +kernel)) (by decide +kernel)
theorem ml_L_179 : Cond.methodLink RL 179 yX3_count ∈ gT := gT_in (List.mem_of_getElem? (i := 699) (by decide +kernel)) (by decide +kernel)
theorem ml_X3_270 : Cond.methodLink RX3 270 yX0_spotsInUse ∈ gT := gT_in (List.mem_of_getElem? (i := 703) (by decide +kernel)) (by decide +kernel)
theorem ml_L_183 : Cond.methodLink RL 183 yX3_status ∈ gT := gT_in (List.mem_of_getElem? (i := 707) (by decide +kernel)) (by decide +kernel)
theorem ml_L_12 : Cond.methodLink RL 12 yX4_init ∈ gT := gT_in (List.mem_of_getElem? (i := 713) (by decide +kernel)) (by decide +kernel)
theorem ml_L_17 : Cond.methodLink RL 17 yX4_list ∈ gT := gT_in (List.mem_of_getElem? (i := 763) (by decide +kernel)) (by decide +kernel)
theorem ml_X4_55 : Cond.methodLink RX4 55 yX4_isPlace ∈ gT := gT_in (List.mem_of_getElem? (i := 767) (by decide +kernel)) (by decide +kernel)
theorem ml_X4_40 : Cond.methodLink RX4 40 yX4_in ∈ gT := gT_in (List.mem_of_getElem? (i := 770) (by decide +kernel)) (by decide +kernel)
theorem ml_X4_59 : Cond.methodLink RX4 59 yX4_becomes ∈ gT := gT_in (List.mem_of_getElem? (i := 773) (by decide +kernel)) (by decide +kernel)
theorem ml_X4_36 : Cond.methodLink RX4 36 yX4_finds ∈ gT := gT_in (List.mem_of_getElem? (i := 778) (by decide +kernel)) (by decide +kernel)
theorem ml_L_22 : Cond.methodLink RL 22 yX4_listed ∈ gT := gT_in (List.mem_of_getElem? (i := 782) (by decide +kernel)) (by decide +kernel)
theorem ml_L_26 : Cond.methodLink RL 26 yX4_dish ∈ gT := gT_in (List.mem_of_getElem? (i := 786) (by decide +kernel)) (by decide +kernel)
theorem ml_X4_66 : Cond.methodLink RX4 66 yX4_isTown ∈ gT := gT_in (List.mem_of_getElem? (i := 790) (by decide +kernel)) (by decide +kernel)
theorem ml_X4_70 : Cond.methodLink RX4 70 yX4_comes ∈ gT := gT_in (List.mem_of_getElem? (i := 794) (by decide +kernel)) (by decide +kernel)
theorem ml_X4_62 : Cond.methodLink RX4 62 yX4_put ∈ gT := gT_in (List.mem_of_getElem? (i := 798) (by decide +kernel)) (by decide +kernel)
theorem ml_L_30 : Cond.methodLink RL 30 yX4_guest ∈ gT := gT_in (List.mem_of_getElem? (i := 802) (by decide +kernel)) (by decide +kernel)
theorem ml_X4_77 : Cond.methodLink RX4 77 yX4_enters ∈ gT := gT_in (List.mem_of_getElem? (i := 806) (by decide +kernel)) (by decide +kernel)
theorem ml_X4_74 : Cond.methodLink RX4 74 yX4_lets ∈ gT := gT_in (List.mem_of_getElem? (i := 810) (by decide +kernel)) (by decide +kernel)
theorem ml_L_35 : Cond.methodLink RL 35 yX4_of ∈ gT := gT_in (List.mem_of_getElem? (i := 814) (by decide +kernel)) (by decide +kernel)
theorem ml_X4_80 : Cond.methodLink RX4 80 yX4_isDish ∈ gT := gT_in (List.mem_of_getElem? (i := 818) (by decide +kernel)) (by decide +kernel)
theorem ml_X4_48 : Cond.methodLink RX4 48 yX4_it ∈ gT := gT_in (List.mem_of_getElem? (i := 822) (by decide +kernel)) (by decide +kernel)
theorem ml_L_39 : Cond.methodLink RL 39 yX4_change ∈ gT := gT_in (List.mem_of_getElem? (i := 826) (by decide +kernel)) (by decide +kernel)
theorem ml_X4_83 : Cond.methodLink RX4 83 yX4_mostOf ∈ gT := gT_in (List.mem_of_getElem? (i := 830) (by decide +kernel)) (by decide +kernel)
theorem ml_L_43 : Cond.methodLink RL 43 yX4_ofGuest ∈ gT := gT_in (List.mem_of_getElem? (i := 833) (by decide +kernel)) (by decide +kernel)
theorem ml_X4_86 : Cond.methodLink RX4 86 yX4_isGuest ∈ gT := gT_in (List.mem_of_getElem? (i := 837) (by decide +kernel)) (by decide +kernel)
theorem ml_X4_44 : Cond.methodLink RX4 44 yX4_his ∈ gT := gT_in (List.mem_of_getElem? (i := 841) (by decide +kernel)) (by decide +kernel)
theorem ml_L_47 : Cond.methodLink RL 47 yX4_seat ∈ gT := gT_in (List.mem_of_getElem? (i := 845) (by decide +kernel)) (by decide +kernel)
theorem ml_X4_90 : Cond.methodLink RX4 90 yX4_mostOfGuest ∈ gT := gT_in (List.mem_of_getElem? (i := 849) (by decide +kernel)) (by decide +kernel)
theorem ml_L_51 : Cond.methodLink RL 51 yX4_would ∈ gT := gT_in (List.mem_of_getElem? (i := 853) (by decide +kernel)) (by decide +kernel)
theorem ml_X4_93 : Cond.methodLink RX4 93 yX4_isLeft ∈ gT := gT_in (List.mem_of_getElem? (i := 857) (by decide +kernel)) (by decide +kernel)
theorem ml_X4_51 : Cond.methodLink RX4 51 yX4_isAnotherFor ∈ gT := gT_in (List.mem_of_getElem? (i := 861) (by decide +kernel)) (by decide +kernel)
theorem ml_X4_96 : Cond.methodLink RX4 96 yX4_costs ∈ gT := gT_in (List.mem_of_getElem? (i := 865) (by decide +kernel)) (by decide +kernel)
theorem ml_X4_100 : Cond.methodLink RX4 100 yX4_bends ∈ gT := gT_in (List.mem_of_getElem? (i := 869) (by decide +kernel)) (by decide +kernel)
theorem ml_L_55 : Cond.methodLink RL 55 yX4_eat ∈ gT := gT_in (List.mem_of_getElem? (i := 873) (by decide +kernel)) (by decide +kernel)
theorem ml_X4_108 : Cond.methodLink RX4 108 yX4_eats ∈ gT := gT_in (List.mem_of_getElem? (i := 878) (by decide +kernel)) (by decide +kernel)
theorem ml_X4_104 : Cond.methodLink RX4 104 yX4_held ∈ gT := gT_in (List.mem_of_getElem? (i := 882) (by decide +kernel)) (by decide +kernel)
theorem ml_L_59 : Cond.methodLink RL 59 yX4_go ∈ gT := gT_in (List.mem_of_getElem? (i := 885) (by decide +kernel)) (by decide +kernel)
theorem ml_X4_114 : Cond.methodLink RX4 114 yX4_goesFor ∈ gT := gT_in (List.mem_of_getElem? (i := 889) (by decide +kernel)) (by decide +kernel)
theorem ml_X4_111 : Cond.methodLink RX4 111 yX4_goes ∈ gT := gT_in (List.mem_of_getElem? (i := 893) (by decide +kernel)) (by decide +kernel)
theorem ml_X4_118 : Cond.methodLink RX4 118 yX4_bills ∈ gT := gT_in (List.mem_of_getElem? (i := 897) (by decide +kernel)) (by decide +kernel)
theorem ml_L_63 : Cond.methodLink RL 63 yX4_now ∈ gT := gT_in (List.mem_of_getElem? (i := 901) (by decide +kernel)) (by decide +kernel)
theorem ml_X4_122 : Cond.methodLink RX4 122 yX4_aims ∈ gT := gT_in (List.mem_of_getElem? (i := 905) (by decide +kernel)) (by decide +kernel)
theorem ml_X4_125 : Cond.methodLink RX4 125 yX4_allBeen ∈ gT := gT_in (List.mem_of_getElem? (i := 909) (by decide +kernel)) (by decide +kernel)
theorem ml_X4_128 : Cond.methodLink RX4 128 yX4_allServed ∈ gT := gT_in (List.mem_of_getElem? (i := 913) (by decide +kernel)) (by decide +kernel)
theorem ml_X4_131 : Cond.methodLink RX4 131 yX4_pairsApart ∈ gT := gT_in (List.mem_of_getElem? (i := 917) (by decide +kernel)) (by decide +kernel)
theorem ml_X4_134 : Cond.methodLink RX4 134 yX4_onCard ∈ gT := gT_in (List.mem_of_getElem? (i := 921) (by decide +kernel)) (by decide +kernel)
theorem ml_X4_137 : Cond.methodLink RX4 137 yX4_debtor ∈ gT := gT_in (List.mem_of_getElem? (i := 925) (by decide +kernel)) (by decide +kernel)
theorem ml_L_67 : Cond.methodLink RL 67 yX4_ahead ∈ gT := gT_in (List.mem_of_getElem? (i := 929) (by decide +kernel)) (by decide +kernel)
theorem ml_X4_150 : Cond.methodLink RX4 150 yX4_behind ∈ gT := gT_in (List.mem_of_getElem? (i := 933) (by decide +kernel)) (by decide +kernel)
theorem ml_X4_144 : Cond.methodLink RX4 144 yX4_thinks ∈ gT := gT_in (List.mem_of_getElem? (i := 937) (by decide +kernel)) (by decide +kernel)
theorem ml_X4_140 : Cond.methodLink RX4 140 yX4_copyAll ∈ gT := gT_in (List.mem_of_getElem? (i := 941) (by decide +kernel)) (by decide +kernel)
theorem ml_X4_147 : Cond.methodLink RX4 147 yX4_putsBack ∈ gT := gT_in (List.mem_of_getElem? (i := 944) (by decide +kernel)) (by decide +kernel)
theorem ml_L_71 : Cond.methodLink RL 71 yX4_served ∈ gT := gT_in (List.mem_of_getElem? (i := 948) (by decide +kernel)) (by decide +kernel)
theorem ml_L_75 : Cond.methodLink RL 75 yX4_when ∈ gT := gT_in (List.mem_of_getElem? (i := 952) (by decide +kernel)) (by decide +kernel)
theorem ml_L_79 : Cond.methodLink RL 79 yX4_owes ∈ gT := gT_in (List.mem_of_getElem? (i := 957) (by decide +kernel)) (by decide +kernel)
theorem ml_L_83 : Cond.methodLink RL 83 yX4_part ∈ gT := gT_in (List.mem_of_getElem? (i := 961) (by decide +kernel)) (by decide +kernel)
theorem ml_L_87 : Cond.methodLink RL 87 yX4_dishFor ∈ gT := gT_in (List.mem_of_getElem? (i := 965) (by decide +kernel)) (by decide +kernel)
theorem ml_X4_153 : Cond.methodLink RX4 153 yX4_leastBy ∈ gT := gT_in (List.mem_of_getElem? (i := 969) (by decide +kernel)) (by decide +kernel)
theorem ml_L_91 : Cond.methodLink RL 91 yX4_kindFor ∈ gT := gT_in (List.mem_of_getElem? (i := 973) (by decide +kernel)) (by decide +kernel)
theorem ml_L_95 : Cond.methodLink RL 95 yX4_bentFor ∈ gT := gT_in (List.mem_of_getElem? (i := 977) (by decide +kernel)) (by decide +kernel)
theorem ml_X4_157 : Cond.methodLink RX4 157 yX4_orNone ∈ gT := gT_in (List.mem_of_getElem? (i := 981) (by decide +kernel)) (by decide +kernel)
theorem ml_L_99 : Cond.methodLink RL 99 yX4_courses ∈ gT := gT_in (List.mem_of_getElem? (i := 985) (by decide +kernel)) (by decide +kernel)
theorem ml_X4_160 : Cond.methodLink RX4 160 yX4_doBring ∈ gT := gT_in (List.mem_of_getElem? (i := 989) (by decide +kernel)) (by decide +kernel)
theorem ml_L_103 : Cond.methodLink RL 103 yX4_strike ∈ gT := gT_in (List.mem_of_getElem? (i := 993) (by decide +kernel)) (by decide +kernel)
theorem ml_X4_164 : Cond.methodLink RX4 164 yX4_bits ∈ gT := gT_in (List.mem_of_getElem? (i := 997) (by decide +kernel)) (by decide +kernel)
theorem ml_X4_167 : Cond.methodLink RX4 167 yX4_isElsewhere ∈ gT := gT_in (List.mem_of_getElem? (i := 1000) (by decide +kernel)) (by decide +kernel)
theorem ml_L_107 : Cond.methodLink RL 107 yX4_fits ∈ gT := gT_in (List.mem_of_getElem? (i := 1004) (by decide +kernel)) (by decide +kernel)
theorem ml_X4_174 : Cond.methodLink RX4 174 yX4_notThere ∈ gT := gT_in (List.mem_of_getElem? (i := 1008) (by decide +kernel)) (by decide +kernel)
theorem ml_X4_170 : Cond.methodLink RX4 170 yX4_isSheet ∈ gT := gT_in (List.mem_of_getElem? (i := 1012) (by decide +kernel)) (by decide +kernel)
theorem ml_X4_177 : Cond.methodLink RX4 177 yX4_isTold ∈ gT := gT_in (List.mem_of_getElem? (i := 1016) (by decide +kernel)) (by decide +kernel)
theorem ml_L_111 : Cond.methodLink RL 111 yX4_kinds ∈ gT := gT_in (List.mem_of_getElem? (i := 1020) (by decide +kernel)) (by decide +kernel)
theorem ml_L_115 : Cond.methodLink RL 115 yX4_coach ∈ gT := gT_in (List.mem_of_getElem? (i := 1024) (by decide +kernel)) (by decide +kernel)
theorem ml_X4_181 : Cond.methodLink RX4 181 yX4_draw ∈ gT := gT_in (List.mem_of_getElem? (i := 1028) (by decide +kernel)) (by decide +kernel)
theorem ml_L_120 : Cond.methodLink RL 120 yX4_odds ∈ gT := gT_in (List.mem_of_getElem? (i := 1033) (by decide +kernel)) (by decide +kernel)
theorem ml_L_124 : Cond.methodLink RL 124 yX4_seed ∈ gT := gT_in (List.mem_of_getElem? (i := 1037) (by decide +kernel)) (by decide +kernel)
theorem ml_L_128 : Cond.methodLink RL 128 yX4_feed ∈ gT := gT_in (List.mem_of_getElem? (i := 1041) (by decide +kernel)) (by decide +kernel)
theorem ml_L_133 : Cond.methodLink RL 133 yX4_wipe ∈ gT := gT_in (List.mem_of_getElem? (i := 1045) (by decide +kernel)) (by decide +kernel)
theorem ml_L_137 : Cond.methodLink RL 137 yX4_text ∈ gT := gT_in (List.mem_of_getElem? (i := 1049) (by decide +kernel)) (by decide +kernel)
theorem ml_X4_216 : Cond.methodLink RX4 216 yX4_reads ∈ gT := gT_in (List.mem_of_getElem? (i := 1053) (by decide +kernel)) (by decide +kernel)
theorem ml_X4_200 : Cond.methodLink RX4 200 yX4_isByte ∈ gT := gT_in (List.mem_of_getElem? (i := 1057) (by decide +kernel)) (by decide +kernel)
theorem ml_X4_209 : Cond.methodLink RX4 209 yX4_wordHere ∈ gT := gT_in (List.mem_of_getElem? (i := 1061) (by decide +kernel)) (by decide +kernel)
theorem ml_X4_197 : Cond.methodLink RX4 197 yX4_isName ∈ gT := gT_in (List.mem_of_getElem? (i := 1065) (by decide +kernel)) (by decide +kernel)
theorem ml_X4_237 : Cond.methodLink RX4 237 yX4_item ∈ gT := gT_in (List.mem_of_getElem? (i := 1071) (by decide +kernel)) (by decide +kernel)
theorem ml_X4_228 : Cond.methodLink RX4 228 yX4_dishItem ∈ gT := gT_in (List.mem_of_getElem? (i := 1075) (by decide +kernel)) (by decide +kernel)
theorem ml_X4_222 : Cond.methodLink RX4 222 yX4_number ∈ gT := gT_in (List.mem_of_getElem? (i := 1079) (by decide +kernel)) (by decide +kernel)
theorem ml_X4_225 : Cond.methodLink RX4 225 yX4_perhaps ∈ gT := gT_in (List.mem_of_getElem? (i := 1083) (by decide +kernel)) (by decide +kernel)
theorem ml_X4_219 : Cond.methodLink RX4 219 yX4_takes ∈ gT := gT_in (List.mem_of_getElem? (i := 1087) (by decide +kernel)) (by decide +kernel)
theorem ml_X4_231 : Cond.methodLink RX4 231 yX4_guestItem ∈ gT := gT_in (List.mem_of_getElem? (i := 1091) (by decide +kernel)) (by decide +kernel)
theorem ml_X4_234 : Cond.methodLink RX4 234 yX4_mealItem ∈ gT := gT_in (List.mem_of_getElem? (i := 1095) (by decide +kernel)) (by decide +kernel)
theorem ml_L_141 : Cond.methodLink RL 141 yX4_hold ∈ gT := gT_in (List.mem_of_getElem? (i := 1099) (by decide +kernel)) (by decide +kernel)
theorem ml_L_145 : Cond.methodLink RL 145 yX4_as ∈ gT := gT_in (List.mem_of_getElem? (i := 1103) (by decide +kernel)) (by decide +kernel)
theorem ml_X4_240 : Cond.methodLink RX4 240 yX4_isUnder ∈ gT := gT_in (List.mem_of_getElem? (i := 1107) (by decide +kernel)) (by decide +kernel)
theorem ml_L_149 : Cond.methodLink RL 149 yX4_sheet ∈ gT := gT_in (List.mem_of_getElem? (i := 1111) (by decide +kernel)) (by decide +kernel)
theorem ml_L_153 : Cond.methodLink RL 153 yX4_write ∈ gT := gT_in (List.mem_of_getElem? (i := 1116) (by decide +kernel)) (by decide +kernel)
theorem ml_L_158 : Cond.methodLink RL 158 yX4_copy ∈ gT := gT_in (List.mem_of_getElem? (i := 1120) (by decide +kernel)) (by decide +kernel)
theorem ml_X4_245 : Cond.methodLink RX4 245 yX4_notCopied ∈ gT := gT_in (List.mem_of_getElem? (i := 1124) (by decide +kernel)) (by decide +kernel)
theorem ml_L_162 : Cond.methodLink RL 162 yX4_load ∈ gT := gT_in (List.mem_of_getElem? (i := 1128) (by decide +kernel)) (by decide +kernel)
theorem ml_L_166 : Cond.methodLink RL 166 yX4_judge ∈ gT := gT_in (List.mem_of_getElem? (i := 1132) (by decide +kernel)) (by decide +kernel)
theorem ml_L_170 : Cond.methodLink RL 170 yX4_image ∈ gT := gT_in (List.mem_of_getElem? (i := 1136) (by decide +kernel)) (by decide +kernel)
theorem ml_L_174 : Cond.methodLink RL 174 yX4_undo ∈ gT := gT_in (List.mem_of_getElem? (i := 1140) (by decide +kernel)) (by decide +kernel)
theorem ml_L_178 : Cond.methodLink RL 178 yX4_tear ∈ gT := gT_in (List.mem_of_getElem? (i := 1144) (by decide +kernel)) (by decide +kernel)
theorem ml_L_182 : Cond.methodLink RL 182 yX4_count ∈ gT := gT_in (List.mem_of_getElem? (i := 1148) (by decide +kernel)) (by decide +kernel)
theorem ml_X4_252 : Cond.methodLink RX4 252 yX4_manyHeld ∈ gT := gT_in (List.mem_of_getElem? (i := 1152) (by decide +kernel)) (by decide +kernel)
theorem ml_L_186 : Cond.methodLink RL 186 yX4_status ∈ gT := gT_in (List.mem_of_getElem? (i := 1156) (by decide +kernel)) (by decide +kernel)
theorem fl_X0_11 : FL RX0 11 0 0 := ⟨_, _, _, rfl, by decide, gT_in (List.mem_of_getElem? (i := 80) (by decide +kernel)) (by decide +kernel), iuX0⟩
theorem fl_X3_57 : FL RX3 57 0 0 := ⟨_, _, _, rfl, by decide, gT_in (List.mem_of_getElem? (i := 81) (by decide +kernel)) (by decide +kernel), iuX0⟩
theorem fl_X0_15 : FL RX0 15 0 1 := ⟨_, _, _, rfl, by decide, gT_in (List.mem_of_getElem? (i := 82) (by decide +kernel)) (by decide +kernel), iuX0⟩
theorem fl_X0_18 : FL RX0 18 0 2 := ⟨_, _, _, rfl, by decide, gT_in (List.mem_of_getElem? (i := 83) (by decide +kernel)) (by decide +kernel), iuX0⟩
theorem fl_X0_21 : FL RX0 21 0 3 := ⟨_, _, _, rfl, by decide, gT_in (List.mem_of_getElem? (i := 84) (by decide +kernel)) (by decide +kernel), iuX0⟩
theorem fl_X3_227 : FL RX3 227 0 3 := ⟨_, _, _, rfl, by decide, gT_in (List.mem_of_getElem? (i := 85) (by decide +kernel)) (by decide +kernel), iuX0⟩
theorem fl_X0_34 : FL RX0 34 0 4 := ⟨_, _, _, rfl, by decide, gT_in (List.mem_of_getElem? (i := 86) (by decide +kernel)) (by decide +kernel), iuX0⟩
theorem fl_X3_70 : FL RX3 70 0 4 := ⟨_, _, _, rfl, by decide, gT_in (List.mem_of_getElem? (i := 87) (by decide +kernel)) (by decide +kernel), iuX0⟩
theorem fl_X2_57 : FL RX2 57 0 4 := ⟨_, _, _, rfl, by decide, gT_in (List.mem_of_getElem? (i := 88) (by decide +kernel)) (by decide +kernel), iuX0⟩
theorem fl_X0_37 : FL RX0 37 0 5 := ⟨_, _, _, rfl, by decide, gT_in (List.mem_of_getElem? (i := 89) (by decide +kernel)) (by decide +kernel), iuX0⟩
theorem fl_X3_82 : FL RX3 82 0 5 := ⟨_, _, _, rfl, by decide, gT_in (List.mem_of_getElem? (i := 90) (by decide +kernel)) (by decide +kernel), iuX0⟩
theorem fl_X2_81 : FL RX2 81 0 5 := ⟨_, _, _, rfl, by decide, gT_in (List.mem_of_getElem? (i := 91) (by decide +kernel)) (by decide +kernel), iuX0⟩
theorem fl_X0_40 : FL RX0 40 0 6 := ⟨_, _, _, rfl, by decide, gT_in (List.mem_of_getElem? (i := 92) (by decide +kernel)) (by decide +kernel), iuX0⟩
theorem fl_X3_139 : FL RX3 139 0 6 := ⟨_, _, _, rfl, by decide, gT_in (List.mem_of_getElem? (i := 93) (by decide +kernel)) (by decide +kernel), iuX0⟩
theorem fl_X0_24 : FL RX0 24 0 7 := ⟨_, _, _, rfl, by decide, gT_in (List.mem_of_getElem? (i := 94) (by decide +kernel)) (by decide +kernel), iuX0⟩
theorem fl_X3_210 : FL RX3 210 0 7 := ⟨_, _, _, rfl, by decide, gT_in (List.mem_of_getElem? (i := 95) (by decide +kernel)) (by decide +kernel), iuX0⟩
theorem fl_X2_9 : FL RX2 9 2 0 := ⟨_, _, _, rfl, by decide, gT_in (List.mem_of_getElem? (i := 120) (by decide +kernel)) (by decide +kernel), iuX2⟩
theorem fl_X2_13 : FL RX2 13 2 1 := ⟨_, _, _, rfl, by decide, gT_in (List.mem_of_getElem? (i := 121) (by decide +kernel)) (by decide +kernel), iuX2⟩
theorem fl_X3_213 : FL RX3 213 2 1 := ⟨_, _, _, rfl, by decide, gT_in (List.mem_of_getElem? (i := 122) (by decide +kernel)) (by decide +kernel), iuX2⟩
theorem fl_X2_27 : FL RX2 27 2 2 := ⟨_, _, _, rfl, by decide, gT_in (List.mem_of_getElem? (i := 123) (by decide +kernel)) (by decide +kernel), iuX2⟩
theorem fl_X2_30 : FL RX2 30 2 3 := ⟨_, _, _, rfl, by decide, gT_in (List.mem_of_getElem? (i := 124) (by decide +kernel)) (by decide +kernel), iuX2⟩
theorem fl_X2_17 : FL RX2 17 2 4 := ⟨_, _, _, rfl, by decide, gT_in (List.mem_of_getElem? (i := 125) (by decide +kernel)) (by decide +kernel), iuX2⟩
theorem fl_X2_95 : FL RX2 95 2 5 := ⟨_, _, _, rfl, by decide, gT_in (List.mem_of_getElem? (i := 126) (by decide +kernel)) (by decide +kernel), iuX2⟩
theorem fl_X1_9 : FL RX1 9 1 0 := ⟨_, _, _, rfl, by decide, gT_in (List.mem_of_getElem? (i := 148) (by decide +kernel)) (by decide +kernel), iuX1⟩
theorem fl_X3_256 : FL RX3 256 1 0 := ⟨_, _, _, rfl, by decide, gT_in (List.mem_of_getElem? (i := 149) (by decide +kernel)) (by decide +kernel), iuX1⟩
theorem fl_X1_13 : FL RX1 13 1 1 := ⟨_, _, _, rfl, by decide, gT_in (List.mem_of_getElem? (i := 150) (by decide +kernel)) (by decide +kernel), iuX1⟩
theorem fl_X3_250 : FL RX3 250 1 1 := ⟨_, _, _, rfl, by decide, gT_in (List.mem_of_getElem? (i := 151) (by decide +kernel)) (by decide +kernel), iuX1⟩
theorem fl_X1_17 : FL RX1 17 1 2 := ⟨_, _, _, rfl, by decide, gT_in (List.mem_of_getElem? (i := 152) (by decide +kernel)) (by decide +kernel), iuX1⟩
theorem fl_X3_242 : FL RX3 242 1 2 := ⟨_, _, _, rfl, by decide, gT_in (List.mem_of_getElem? (i := 153) (by decide +kernel)) (by decide +kernel), iuX1⟩
theorem fl_X3_12 : FL RX3 12 3 0 := ⟨_, _, _, rfl, by decide, gT_in (List.mem_of_getElem? (i := 161) (by decide +kernel)) (by decide +kernel), iuX3⟩
theorem fl_X3_16 : FL RX3 16 3 1 := ⟨_, _, _, rfl, by decide, gT_in (List.mem_of_getElem? (i := 162) (by decide +kernel)) (by decide +kernel), iuX3⟩
theorem fl_X3_19 : FL RX3 19 3 2 := ⟨_, _, _, rfl, by decide, gT_in (List.mem_of_getElem? (i := 163) (by decide +kernel)) (by decide +kernel), iuX3⟩
theorem fl_X3_25 : FL RX3 25 3 3 := ⟨_, _, _, rfl, by decide, gT_in (List.mem_of_getElem? (i := 164) (by decide +kernel)) (by decide +kernel), iuX3⟩
theorem fl_X3_31 : FL RX3 31 3 4 := ⟨_, _, _, rfl, by decide, gT_in (List.mem_of_getElem? (i := 165) (by decide +kernel)) (by decide +kernel), iuX3⟩
theorem fl_X3_36 : FL RX3 36 3 5 := ⟨_, _, _, rfl, by decide, gT_in (List.mem_of_getElem? (i := 166) (by decide +kernel)) (by decide +kernel), iuX3⟩
theorem fl_X3_40 : FL RX3 40 3 6 := ⟨_, _, _, rfl, by decide, gT_in (List.mem_of_getElem? (i := 167) (by decide +kernel)) (by decide +kernel), iuX3⟩
theorem fs_X3_95 : Cond.fieldLink RX3 95 "ForkInn$Inn" "DISH_TOPS" "[I" ∈ gT := gT_in (List.mem_of_getElem? (i := 256) (by decide +kernel)) (by decide +kernel)
theorem fs_X3_110 : Cond.fieldLink RX3 110 "ForkInn$Inn" "GUEST_TOPS" "[I" ∈ gT := gT_in (List.mem_of_getElem? (i := 278) (by decide +kernel)) (by decide +kernel)
theorem fs_J0_38 : Cond.fieldLink RJ0 38 "java/lang/String" "COMPACT_STRINGS" "Z" ∈ gT := gT_in (List.mem_of_getElem? (i := 555) (by decide +kernel)) (by decide +kernel)
theorem fs_J0_1053 : Cond.fieldLink RJ0 1053 "jdk/internal/util/Preconditions" "SIOOBE_FORMATTER" "Ljava/util/function/BiFunction;" ∈ gT := gT_in (List.mem_of_getElem? (i := 571) (by decide +kernel)) (by decide +kernel)
theorem fs_J2_44 : Cond.fieldLink RJ2 44 "java/lang/StringUTF16" "$assertionsDisabled" "Z" ∈ gT := gT_in (List.mem_of_getElem? (i := 589) (by decide +kernel)) (by decide +kernel)
theorem fs_J2_59 : Cond.fieldLink RJ2 59 "java/lang/StringUTF16" "HI_BYTE_SHIFT" "I" ∈ gT := gT_in (List.mem_of_getElem? (i := 591) (by decide +kernel)) (by decide +kernel)
theorem fs_J2_63 : Cond.fieldLink RJ2 63 "java/lang/StringUTF16" "LO_BYTE_SHIFT" "I" ∈ gT := gT_in (List.mem_of_getElem? (i := 593) (by decide +kernel)) (by decide +kernel)
theorem fs_X0_54 : Cond.fieldLink RX0 54 "ForkInn$Inn" "KIND_ABOVE" "[I" ∈ gT := gT_in (List.mem_of_getElem? (i := 649) (by decide +kernel)) (by decide +kernel)
theorem fl_X4_9 : FL RX4 9 4 0 := ⟨_, _, _, rfl, by decide, gT_in (List.mem_of_getElem? (i := 717) (by decide +kernel)) (by decide +kernel), iuX4⟩
theorem fl_X4_13 : FL RX4 13 4 1 := ⟨_, _, _, rfl, by decide, gT_in (List.mem_of_getElem? (i := 718) (by decide +kernel)) (by decide +kernel), iuX4⟩
theorem fl_X4_16 : FL RX4 16 4 2 := ⟨_, _, _, rfl, by decide, gT_in (List.mem_of_getElem? (i := 719) (by decide +kernel)) (by decide +kernel), iuX4⟩
theorem fl_X4_249 : FL RX4 249 4 3 := ⟨_, _, _, rfl, by decide, gT_in (List.mem_of_getElem? (i := 720) (by decide +kernel)) (by decide +kernel), iuX4⟩
theorem fl_X4_19 : FL RX4 19 4 4 := ⟨_, _, _, rfl, by decide, gT_in (List.mem_of_getElem? (i := 721) (by decide +kernel)) (by decide +kernel), iuX4⟩
theorem fl_X4_22 : FL RX4 22 4 5 := ⟨_, _, _, rfl, by decide, gT_in (List.mem_of_getElem? (i := 722) (by decide +kernel)) (by decide +kernel), iuX4⟩
theorem fl_X4_25 : FL RX4 25 4 6 := ⟨_, _, _, rfl, by decide, gT_in (List.mem_of_getElem? (i := 723) (by decide +kernel)) (by decide +kernel), iuX4⟩
theorem fl_X4_28 : FL RX4 28 4 7 := ⟨_, _, _, rfl, by decide, gT_in (List.mem_of_getElem? (i := 724) (by decide +kernel)) (by decide +kernel), iuX4⟩
theorem fl_X4_31 : FL RX4 31 4 8 := ⟨_, _, _, rfl, by decide, gT_in (List.mem_of_getElem? (i := 725) (by decide +kernel)) (by decide +kernel), iuX4⟩
theorem fl_X4_184 : FL RX4 184 4 9 := ⟨_, _, _, rfl, by decide, gT_in (List.mem_of_getElem? (i := 726) (by decide +kernel)) (by decide +kernel), iuX4⟩
theorem fl_X4_206 : FL RX4 206 4 10 := ⟨_, _, _, rfl, by decide, gT_in (List.mem_of_getElem? (i := 727) (by decide +kernel)) (by decide +kernel), iuX4⟩
theorem fl_X4_191 : FL RX4 191 4 11 := ⟨_, _, _, rfl, by decide, gT_in (List.mem_of_getElem? (i := 728) (by decide +kernel)) (by decide +kernel), iuX4⟩
theorem fl_X4_194 : FL RX4 194 4 12 := ⟨_, _, _, rfl, by decide, gT_in (List.mem_of_getElem? (i := 729) (by decide +kernel)) (by decide +kernel), iuX4⟩
theorem fl_X4_203 : FL RX4 203 4 13 := ⟨_, _, _, rfl, by decide, gT_in (List.mem_of_getElem? (i := 730) (by decide +kernel)) (by decide +kernel), iuX4⟩
theorem fl_X4_212 : FL RX4 212 4 14 := ⟨_, _, _, rfl, by decide, gT_in (List.mem_of_getElem? (i := 731) (by decide +kernel)) (by decide +kernel), iuX4⟩
theorem fs_X4_188 : Cond.fieldLink RX4 188 "ForkInnModel" "NAMES" "[I" ∈ gT := gT_in (List.mem_of_getElem? (i := 1069) (by decide +kernel)) (by decide +kernel)
theorem fs_J0_9 : Cond.fieldLink RJ0 9 "java/lang/String" "value" "[B" ∈ gT := gT_in (List.mem_of_getElem? (i := 1160) (by decide +kernel)) (by decide +kernel)
theorem fs_J0_15 : Cond.fieldLink RJ0 15 "java/lang/String" "coder" "B" ∈ gT := gT_in (List.mem_of_getElem? (i := 1161) (by decide +kernel)) (by decide +kernel)
theorem fp_0_4 : FP 0 4 .int := ⟨_, _, _, tyX0, rfl, rfl, by decide +kernel, tyX0_ok, nmX0⟩
theorem fp_0_5 : FP 0 5 .int := ⟨_, _, _, tyX0, rfl, rfl, by decide +kernel, tyX0_ok, nmX0⟩
theorem fp_0_6 : FP 0 6 .int := ⟨_, _, _, tyX0, rfl, rfl, by decide +kernel, tyX0_ok, nmX0⟩
theorem fp_0_7 : FP 0 7 .int := ⟨_, _, _, tyX0, rfl, rfl, by decide +kernel, tyX0_ok, nmX0⟩
theorem fp_1_1 : FP 1 1 .int := ⟨_, _, _, tyX1, rfl, rfl, by decide +kernel, tyX1_ok, nmX1⟩
theorem fp_1_2 : FP 1 2 .int := ⟨_, _, _, tyX1, rfl, rfl, by decide +kernel, tyX1_ok, nmX1⟩
theorem fp_2_1 : FP 2 1 .int := ⟨_, _, _, tyX2, rfl, rfl, by decide +kernel, tyX2_ok, nmX2⟩
theorem fp_2_2 : FP 2 2 .int := ⟨_, _, _, tyX2, rfl, rfl, by decide +kernel, tyX2_ok, nmX2⟩
theorem fp_2_3 : FP 2 3 .int := ⟨_, _, _, tyX2, rfl, rfl, by decide +kernel, tyX2_ok, nmX2⟩
theorem fp_2_4 : FP 2 4 .int := ⟨_, _, _, tyX2, rfl, rfl, by decide +kernel, tyX2_ok, nmX2⟩
theorem fp_2_5 : FP 2 5 .int := ⟨_, _, _, tyX2, rfl, rfl, by decide +kernel, tyX2_ok, nmX2⟩
theorem fp_3_6 : FP 3 6 .boolean := ⟨_, _, _, tyX3, rfl, rfl, by decide +kernel, tyX3_ok, nmX3⟩
theorem fp_4_3 : FP 4 3 .boolean := ⟨_, _, _, tyX4, rfl, rfl, by decide +kernel, tyX4_ok, nmX4⟩
theorem fp_4_9 : FP 4 9 .int := ⟨_, _, _, tyX4, rfl, rfl, by decide +kernel, tyX4_ok, nmX4⟩
theorem fp_4_10 : FP 4 10 .int := ⟨_, _, _, tyX4, rfl, rfl, by decide +kernel, tyX4_ok, nmX4⟩
theorem fp_4_11 : FP 4 11 .int := ⟨_, _, _, tyX4, rfl, rfl, by decide +kernel, tyX4_ok, nmX4⟩
theorem fp_4_12 : FP 4 12 .int := ⟨_, _, _, tyX4, rfl, rfl, by decide +kernel, tyX4_ok, nmX4⟩
theorem fp_4_13 : FP 4 13 .int := ⟨_, _, _, tyX4, rfl, rfl, by decide +kernel, tyX4_ok, nmX4⟩
theorem fp_4_14 : FP 4 14 .boolean := ⟨_, _, _, tyX4, rfl, rfl, by decide +kernel, tyX4_ok, nmX4⟩
theorem lc_X3_52 : Cond.constant RX3 52 (-1000001) ∈ gT := gT_in (List.mem_of_getElem? (i := 193) (by decide +kernel)) (by decide +kernel)
theorem lc_X3_74 : Cond.constant RX3 74 (-1000002) ∈ gT := gT_in (List.mem_of_getElem? (i := 216) (by decide +kernel)) (by decide +kernel)
theorem lc_X3_134 : Cond.constant RX3 134 (-1000005) ∈ gT := gT_in (List.mem_of_getElem? (i := 317) (by decide +kernel)) (by decide +kernel)
theorem lc_X0_83 : Cond.constant RX0 83 (99999) ∈ gT := gT_in (List.mem_of_getElem? (i := 325) (by decide +kernel)) (by decide +kernel)
theorem lc_X3_142 : Cond.constant RX3 142 (99999) ∈ gT := gT_in (List.mem_of_getElem? (i := 342) (by decide +kernel)) (by decide +kernel)
theorem lc_X3_176 : Cond.constant RX3 176 (-1000004) ∈ gT := gT_in (List.mem_of_getElem? (i := 413) (by decide +kernel)) (by decide +kernel)
theorem lc_X3_180 : Cond.constant RX3 180 (1000000) ∈ gT := gT_in (List.mem_of_getElem? (i := 427) (by decide +kernel)) (by decide +kernel)
theorem lc_J6_265 : Cond.constant RJ6 265 (1431655765) ∈ gT := gT_in (List.mem_of_getElem? (i := 457) (by decide +kernel)) (by decide +kernel)
theorem lc_J6_266 : Cond.constant RJ6 266 (858993459) ∈ gT := gT_in (List.mem_of_getElem? (i := 458) (by decide +kernel)) (by decide +kernel)
theorem lc_J6_267 : Cond.constant RJ6 267 (252645135) ∈ gT := gT_in (List.mem_of_getElem? (i := 459) (by decide +kernel)) (by decide +kernel)
theorem lc_X3_230 : Cond.constant RX3 230 (-1000006) ∈ gT := gT_in (List.mem_of_getElem? (i := 479) (by decide +kernel)) (by decide +kernel)
theorem lc_X0_118 : Cond.constant RX0 118 (1103515245) ∈ gT := gT_in (List.mem_of_getElem? (i := 496) (by decide +kernel)) (by decide +kernel)
theorem lc_X3_234 : Cond.constant RX3 234 (-1000003) ∈ gT := gT_in (List.mem_of_getElem? (i := 651) (by decide +kernel)) (by decide +kernel)
theorem lc_X3_238 : Cond.constant RX3 238 (-1000007) ∈ gT := gT_in (List.mem_of_getElem? (i := 656) (by decide +kernel)) (by decide +kernel)
theorem lc_X4_34 : Cond.constant RX4 34 (-1000001) ∈ gT := gT_in (List.mem_of_getElem? (i := 777) (by decide +kernel)) (by decide +kernel)
theorem lc_X4_69 : Cond.constant RX4 69 (-1000002) ∈ gT := gT_in (List.mem_of_getElem? (i := 793) (by decide +kernel)) (by decide +kernel)
theorem lc_X4_89 : Cond.constant RX4 89 (99999) ∈ gT := gT_in (List.mem_of_getElem? (i := 852) (by decide +kernel)) (by decide +kernel)
theorem lc_X4_107 : Cond.constant RX4 107 (-1000005) ∈ gT := gT_in (List.mem_of_getElem? (i := 877) (by decide +kernel)) (by decide +kernel)
theorem lc_X4_35 : Cond.constant RX4 35 (-1000004) ∈ gT := gT_in (List.mem_of_getElem? (i := 956) (by decide +kernel)) (by decide +kernel)
theorem lc_X4_173 : Cond.constant RX4 173 (-1000006) ∈ gT := gT_in (List.mem_of_getElem? (i := 1015) (by decide +kernel)) (by decide +kernel)
theorem lc_X4_180 : Cond.constant RX4 180 (1103515245) ∈ gT := gT_in (List.mem_of_getElem? (i := 1032) (by decide +kernel)) (by decide +kernel)
theorem lc_X4_243 : Cond.constant RX4 243 (-1000003) ∈ gT := gT_in (List.mem_of_getElem? (i := 1110) (by decide +kernel)) (by decide +kernel)
theorem lc_X4_244 : Cond.constant RX4 244 (-1000007) ∈ gT := gT_in (List.mem_of_getElem? (i := 1115) (by decide +kernel)) (by decide +kernel)
end
section
/-! CALLS BY THE NUMBER OF ARGUMENTS; constants -/
section CV
variable {X : Sc} {own : String} {cc : ByteArray} {nL d pc : Nat} {lv st : List Value} {h h1 h' : Hp} {r : Option Value} {y : MethodName} {cc2 : ByteArray} {nL2 d2 idx i ci : Nat} {ret : Option FieldType} {fs : List Zf} {x a1 a2 a3 a4 a5 : Value}
theorem g_callV0v (hC : Ct X y cc2 nL2 ret d2 [.ref i] h none h1) (hM : MI y cc2 nL2 ret 0) (hV : MV y) (hL : Cond.methodLink own idx y ∈ gT) (hd : decode cc pc = .ok (.invokevirtual idx, 3)) (hs : shp[i]? = some (.inl (ci, fs))) (hc : (vwCl[ci]?).map (fun q => q.1) = some y.cls) (hdd : d2 + 1 ≤ d) (hsl : (lg_sl [.ref i]).length ≤ nL2) (hrm : (st.map fun v => v.category).sum ≤ 8) (k : Go X own cc nL d (pc + 3) lv st h1 r h') : Go X own cc nL d pc lv (.ref i :: st) h r h' := g_callV hC hM hV hL hd hs hc hdd rfl rfl hsl hrm k
theorem g_callS0v (hC : Ct X y cc2 nL2 ret d2 [] h none h1) (hM : MI y cc2 nL2 ret 0) (hV : Cond.static y ∈ gT) (hL : Cond.methodLink own idx y ∈ gT) (hd : decode cc pc = .ok (.invokestatic idx, 3)) (hdd : d2 + 1 ≤ d) (hsl : (lg_sl []).length ≤ nL2) (hrm : (st.map fun v => v.category).sum ≤ 8) (k : Go X own cc nL d (pc + 3) lv st h1 r h') : Go X own cc nL d pc lv (st) h r h' := g_callS hC hM hV hL hd hdd rfl rfl hsl hrm k
theorem g_callV0i (hC : Ct X y cc2 nL2 ret d2 [.ref i] h (some x) h1) (hM : MI y cc2 nL2 ret 0) (hV : MV y) (hL : Cond.methodLink own idx y ∈ gT) (hd : decode cc pc = .ok (.invokevirtual idx, 3)) (hs : shp[i]? = some (.inl (ci, fs))) (hc : (vwCl[ci]?).map (fun q => q.1) = some y.cls) (hdd : d2 + 1 ≤ d) (hsl : (lg_sl [.ref i]).length ≤ nL2) (hrm : (st.map fun v => v.category).sum ≤ 8) (k : Go X own cc nL d (pc + 3) lv (x :: st) h1 r h') : Go X own cc nL d pc lv (.ref i :: st) h r h' := g_callV hC hM hV hL hd hs hc hdd rfl rfl hsl hrm k
theorem g_callS0i (hC : Ct X y cc2 nL2 ret d2 [] h (some x) h1) (hM : MI y cc2 nL2 ret 0) (hV : Cond.static y ∈ gT) (hL : Cond.methodLink own idx y ∈ gT) (hd : decode cc pc = .ok (.invokestatic idx, 3)) (hdd : d2 + 1 ≤ d) (hsl : (lg_sl []).length ≤ nL2) (hrm : (st.map fun v => v.category).sum ≤ 8) (k : Go X own cc nL d (pc + 3) lv (x :: st) h1 r h') : Go X own cc nL d pc lv (st) h r h' := g_callS hC hM hV hL hd hdd rfl rfl hsl hrm k
theorem g_callV1v (hC : Ct X y cc2 nL2 ret d2 [.ref i, a1] h none h1) (hM : MI y cc2 nL2 ret 1) (hV : MV y) (hL : Cond.methodLink own idx y ∈ gT) (hd : decode cc pc = .ok (.invokevirtual idx, 3)) (hs : shp[i]? = some (.inl (ci, fs))) (hc : (vwCl[ci]?).map (fun q => q.1) = some y.cls) (hdd : d2 + 1 ≤ d) (hsl : (lg_sl [.ref i, a1]).length ≤ nL2) (hrm : (st.map fun v => v.category).sum ≤ 8) (k : Go X own cc nL d (pc + 3) lv st h1 r h') : Go X own cc nL d pc lv (a1 :: .ref i :: st) h r h' := g_callV hC hM hV hL hd hs hc hdd rfl rfl hsl hrm k
theorem g_callS1v (hC : Ct X y cc2 nL2 ret d2 [a1] h none h1) (hM : MI y cc2 nL2 ret 1) (hV : Cond.static y ∈ gT) (hL : Cond.methodLink own idx y ∈ gT) (hd : decode cc pc = .ok (.invokestatic idx, 3)) (hdd : d2 + 1 ≤ d) (hsl : (lg_sl [a1]).length ≤ nL2) (hrm : (st.map fun v => v.category).sum ≤ 8) (k : Go X own cc nL d (pc + 3) lv st h1 r h') : Go X own cc nL d pc lv (a1 :: st) h r h' := g_callS hC hM hV hL hd hdd rfl rfl hsl hrm k
theorem g_callV1i (hC : Ct X y cc2 nL2 ret d2 [.ref i, a1] h (some x) h1) (hM : MI y cc2 nL2 ret 1) (hV : MV y) (hL : Cond.methodLink own idx y ∈ gT) (hd : decode cc pc = .ok (.invokevirtual idx, 3)) (hs : shp[i]? = some (.inl (ci, fs))) (hc : (vwCl[ci]?).map (fun q => q.1) = some y.cls) (hdd : d2 + 1 ≤ d) (hsl : (lg_sl [.ref i, a1]).length ≤ nL2) (hrm : (st.map fun v => v.category).sum ≤ 8) (k : Go X own cc nL d (pc + 3) lv (x :: st) h1 r h') : Go X own cc nL d pc lv (a1 :: .ref i :: st) h r h' := g_callV hC hM hV hL hd hs hc hdd rfl rfl hsl hrm k
theorem g_callS1i (hC : Ct X y cc2 nL2 ret d2 [a1] h (some x) h1) (hM : MI y cc2 nL2 ret 1) (hV : Cond.static y ∈ gT) (hL : Cond.methodLink own idx y ∈ gT) (hd : decode cc pc = .ok (.invokestatic idx, 3)) (hdd : d2 + 1 ≤ d) (hsl : (lg_sl [a1]).length ≤ nL2) (hrm : (st.map fun v => v.category).sum ≤ 8) (k : Go X own cc nL d (pc + 3) lv (x :: st) h1 r h') : Go X own cc nL d pc lv (a1 :: st) h r h' := g_callS hC hM hV hL hd hdd rfl rfl hsl hrm k
theorem g_callV2v (hC : Ct X y cc2 nL2 ret d2 [.ref i, a1, a2] h none h1) (hM : MI y cc2 nL2 ret 2) (hV : MV y) (hL : Cond.methodLink own idx y ∈ gT) (hd : decode cc pc = .ok (.invokevirtual idx, 3)) (hs : shp[i]? = some (.inl (ci, fs))) (hc : (vwCl[ci]?).map (fun q => q.1) = some y.cls) (hdd : d2 + 1 ≤ d) (hsl : (lg_sl [.ref i, a1, a2]).length ≤ nL2) (hrm : (st.map fun v => v.category).sum ≤ 8) (k : Go X own cc nL d (pc + 3) lv st h1 r h') : Go X own cc nL d pc lv (a2 :: a1 :: .ref i :: st) h r h' := g_callV hC hM hV hL hd hs hc hdd rfl rfl hsl hrm k
theorem g_callS2v (hC : Ct X y cc2 nL2 ret d2 [a1, a2] h none h1) (hM : MI y cc2 nL2 ret 2) (hV : Cond.static y ∈ gT) (hL : Cond.methodLink own idx y ∈ gT) (hd : decode cc pc = .ok (.invokestatic idx, 3)) (hdd : d2 + 1 ≤ d) (hsl : (lg_sl [a1, a2]).length ≤ nL2) (hrm : (st.map fun v => v.category).sum ≤ 8) (k : Go X own cc nL d (pc + 3) lv st h1 r h') : Go X own cc nL d pc lv (a2 :: a1 :: st) h r h' := g_callS hC hM hV hL hd hdd rfl rfl hsl hrm k
theorem g_callV2i (hC : Ct X y cc2 nL2 ret d2 [.ref i, a1, a2] h (some x) h1) (hM : MI y cc2 nL2 ret 2) (hV : MV y) (hL : Cond.methodLink own idx y ∈ gT) (hd : decode cc pc = .ok (.invokevirtual idx, 3)) (hs : shp[i]? = some (.inl (ci, fs))) (hc : (vwCl[ci]?).map (fun q => q.1) = some y.cls) (hdd : d2 + 1 ≤ d) (hsl : (lg_sl [.ref i, a1, a2]).length ≤ nL2) (hrm : (st.map fun v => v.category).sum ≤ 8) (k : Go X own cc nL d (pc + 3) lv (x :: st) h1 r h') : Go X own cc nL d pc lv (a2 :: a1 :: .ref i :: st) h r h' := g_callV hC hM hV hL hd hs hc hdd rfl rfl hsl hrm k
theorem g_callS2i (hC : Ct X y cc2 nL2 ret d2 [a1, a2] h (some x) h1) (hM : MI y cc2 nL2 ret 2) (hV : Cond.static y ∈ gT) (hL : Cond.methodLink own idx y ∈ gT) (hd : decode cc pc = .ok (.invokestatic idx, 3)) (hdd : d2 + 1 ≤ d) (hsl : (lg_sl [a1, a2]).length ≤ nL2) (hrm : (st.map fun v => v.category).sum ≤ 8) (k : Go X own cc nL d (pc + 3) lv (x :: st) h1 r h') : Go X own cc nL d pc lv (a2 :: a1 :: st) h r h' := g_callS hC hM hV hL hd hdd rfl rfl hsl hrm k
theorem g_callV3v (hC : Ct X y cc2 nL2 ret d2 [.ref i, a1, a2, a3] h none h1) (hM : MI y cc2 nL2 ret 3) (hV : MV y) (hL : Cond.methodLink own idx y ∈ gT) (hd : decode cc pc = .ok (.invokevirtual idx, 3)) (hs : shp[i]? = some (.inl (ci, fs))) (hc : (vwCl[ci]?).map (fun q => q.1) = some y.cls) (hdd : d2 + 1 ≤ d) (hsl : (lg_sl [.ref i, a1, a2, a3]).length ≤ nL2) (hrm : (st.map fun v => v.category).sum ≤ 8) (k : Go X own cc nL d (pc + 3) lv st h1 r h') : Go X own cc nL d pc lv (a3 :: a2 :: a1 :: .ref i :: st) h r h' := g_callV hC hM hV hL hd hs hc hdd rfl rfl hsl hrm k
theorem g_callS3v (hC : Ct X y cc2 nL2 ret d2 [a1, a2, a3] h none h1) (hM : MI y cc2 nL2 ret 3) (hV : Cond.static y ∈ gT) (hL : Cond.methodLink own idx y ∈ gT) (hd : decode cc pc = .ok (.invokestatic idx, 3)) (hdd : d2 + 1 ≤ d) (hsl : (lg_sl [a1, a2, a3]).length ≤ nL2) (hrm : (st.map fun v => v.category).sum ≤ 8) (k : Go X own cc nL d (pc + 3) lv st h1 r h') : Go X own cc nL d pc lv (a3 :: a2 :: a1 :: st) h r h' := g_callS hC hM hV hL hd hdd rfl rfl hsl hrm k
theorem g_callV3i (hC : Ct X y cc2 nL2 ret d2 [.ref i, a1, a2, a3] h (some x) h1) (hM : MI y cc2 nL2 ret 3) (hV : MV y) (hL : Cond.methodLink own idx y ∈ gT) (hd : decode cc pc = .ok (.invokevirtual idx, 3)) (hs : shp[i]? = some (.inl (ci, fs))) (hc : (vwCl[ci]?).map (fun q => q.1) = some y.cls) (hdd : d2 + 1 ≤ d) (hsl : (lg_sl [.ref i, a1, a2, a3]).length ≤ nL2) (hrm : (st.map fun v => v.category).sum ≤ 8) (k : Go X own cc nL d (pc + 3) lv (x :: st) h1 r h') : Go X own cc nL d pc lv (a3 :: a2 :: a1 :: .ref i :: st) h r h' := g_callV hC hM hV hL hd hs hc hdd rfl rfl hsl hrm k
theorem g_callS3i (hC : Ct X y cc2 nL2 ret d2 [a1, a2, a3] h (some x) h1) (hM : MI y cc2 nL2 ret 3) (hV : Cond.static y ∈ gT) (hL : Cond.methodLink own idx y ∈ gT) (hd : decode cc pc = .ok (.invokestatic idx, 3)) (hdd : d2 + 1 ≤ d) (hsl : (lg_sl [a1, a2, a3]).length ≤ nL2) (hrm : (st.map fun v => v.category).sum ≤ 8) (k : Go X own cc nL d (pc + 3) lv (x :: st) h1 r h') : Go X own cc nL d pc lv (a3 :: a2 :: a1 :: st) h r h' := g_callS hC hM hV hL hd hdd rfl rfl hsl hrm k
theorem g_callV4v (hC : Ct X y cc2 nL2 ret d2 [.ref i, a1, a2, a3, a4] h none h1) (hM : MI y cc2 nL2 ret 4) (hV : MV y) (hL : Cond.methodLink own idx y ∈ gT) (hd : decode cc pc = .ok (.invokevirtual idx, 3)) (hs : shp[i]? = some (.inl (ci, fs))) (hc : (vwCl[ci]?).map (fun q => q.1) = some y.cls) (hdd : d2 + 1 ≤ d) (hsl : (lg_sl [.ref i, a1, a2, a3, a4]).length ≤ nL2) (hrm : (st.map fun v => v.category).sum ≤ 8) (k : Go X own cc nL d (pc + 3) lv st h1 r h') : Go X own cc nL d pc lv (a4 :: a3 :: a2 :: a1 :: .ref i :: st) h r h' := g_callV hC hM hV hL hd hs hc hdd rfl rfl hsl hrm k
theorem g_callS4v (hC : Ct X y cc2 nL2 ret d2 [a1, a2, a3, a4] h none h1) (hM : MI y cc2 nL2 ret 4) (hV : Cond.static y ∈ gT) (hL : Cond.methodLink own idx y ∈ gT) (hd : decode cc pc = .ok (.invokestatic idx, 3)) (hdd : d2 + 1 ≤ d) (hsl : (lg_sl [a1, a2, a3, a4]).length ≤ nL2) (hrm : (st.map fun v => v.category).sum ≤ 8) (k : Go X own cc nL d (pc + 3) lv st h1 r h') : Go X own cc nL d pc lv (a4 :: a3 :: a2 :: a1 :: st) h r h' := g_callS hC hM hV hL hd hdd rfl rfl hsl hrm k
theorem g_callV4i (hC : Ct X y cc2 nL2 ret d2 [.ref i, a1, a2, a3, a4] h (some x) h1) (hM : MI y cc2 nL2 ret 4) (hV : MV y) (hL : Cond.methodLink own idx y ∈ gT) (hd : decode cc pc = .ok (.invokevirtual idx, 3)) (hs : shp[i]? = some (.inl (ci, fs))) (hc : (vwCl[ci]?).map (fun q => q.1) = some y.cls) (hdd : d2 + 1 ≤ d) (hsl : (lg_sl [.ref i, a1, a2, a3, a4]).length ≤ nL2) (hrm : (st.map fun v => v.category).sum ≤ 8) (k : Go X own cc nL d (pc + 3) lv (x :: st) h1 r h') : Go X own cc nL d pc lv (a4 :: a3 :: a2 :: a1 :: .ref i :: st) h r h' := g_callV hC hM hV hL hd hs hc hdd rfl rfl hsl hrm k
theorem g_callS4i (hC : Ct X y cc2 nL2 ret d2 [a1, a2, a3, a4] h (some x) h1) (hM : MI y cc2 nL2 ret 4) (hV : Cond.static y ∈ gT) (hL : Cond.methodLink own idx y ∈ gT) (hd : decode cc pc = .ok (.invokestatic idx, 3)) (hdd : d2 + 1 ≤ d) (hsl : (lg_sl [a1, a2, a3, a4]).length ≤ nL2) (hrm : (st.map fun v => v.category).sum ≤ 8) (k : Go X own cc nL d (pc + 3) lv (x :: st) h1 r h') : Go X own cc nL d pc lv (a4 :: a3 :: a2 :: a1 :: st) h r h' := g_callS hC hM hV hL hd hdd rfl rfl hsl hrm k
theorem g_callV5v (hC : Ct X y cc2 nL2 ret d2 [.ref i, a1, a2, a3, a4, a5] h none h1) (hM : MI y cc2 nL2 ret 5) (hV : MV y) (hL : Cond.methodLink own idx y ∈ gT) (hd : decode cc pc = .ok (.invokevirtual idx, 3)) (hs : shp[i]? = some (.inl (ci, fs))) (hc : (vwCl[ci]?).map (fun q => q.1) = some y.cls) (hdd : d2 + 1 ≤ d) (hsl : (lg_sl [.ref i, a1, a2, a3, a4, a5]).length ≤ nL2) (hrm : (st.map fun v => v.category).sum ≤ 8) (k : Go X own cc nL d (pc + 3) lv st h1 r h') : Go X own cc nL d pc lv (a5 :: a4 :: a3 :: a2 :: a1 :: .ref i :: st) h r h' := g_callV hC hM hV hL hd hs hc hdd rfl rfl hsl hrm k
theorem g_callS5v (hC : Ct X y cc2 nL2 ret d2 [a1, a2, a3, a4, a5] h none h1) (hM : MI y cc2 nL2 ret 5) (hV : Cond.static y ∈ gT) (hL : Cond.methodLink own idx y ∈ gT) (hd : decode cc pc = .ok (.invokestatic idx, 3)) (hdd : d2 + 1 ≤ d) (hsl : (lg_sl [a1, a2, a3, a4, a5]).length ≤ nL2) (hrm : (st.map fun v => v.category).sum ≤ 8) (k : Go X own cc nL d (pc + 3) lv st h1 r h') : Go X own cc nL d pc lv (a5 :: a4 :: a3 :: a2 :: a1 :: st) h r h' := g_callS hC hM hV hL hd hdd rfl rfl hsl hrm k
theorem g_callV5i (hC : Ct X y cc2 nL2 ret d2 [.ref i, a1, a2, a3, a4, a5] h (some x) h1) (hM : MI y cc2 nL2 ret 5) (hV : MV y) (hL : Cond.methodLink own idx y ∈ gT) (hd : decode cc pc = .ok (.invokevirtual idx, 3)) (hs : shp[i]? = some (.inl (ci, fs))) (hc : (vwCl[ci]?).map (fun q => q.1) = some y.cls) (hdd : d2 + 1 ≤ d) (hsl : (lg_sl [.ref i, a1, a2, a3, a4, a5]).length ≤ nL2) (hrm : (st.map fun v => v.category).sum ≤ 8) (k : Go X own cc nL d (pc + 3) lv (x :: st) h1 r h') : Go X own cc nL d pc lv (a5 :: a4 :: a3 :: a2 :: a1 :: .ref i :: st) h r h' := g_callV hC hM hV hL hd hs hc hdd rfl rfl hsl hrm k
theorem g_callS5i (hC : Ct X y cc2 nL2 ret d2 [a1, a2, a3, a4, a5] h (some x) h1) (hM : MI y cc2 nL2 ret 5) (hV : Cond.static y ∈ gT) (hL : Cond.methodLink own idx y ∈ gT) (hd : decode cc pc = .ok (.invokestatic idx, 3)) (hdd : d2 + 1 ≤ d) (hsl : (lg_sl [a1, a2, a3, a4, a5]).length ≤ nL2) (hrm : (st.map fun v => v.category).sum ≤ 8) (k : Go X own cc nL d (pc + 3) lv (x :: st) h1 r h') : Go X own cc nL d pc lv (a5 :: a4 :: a3 :: a2 :: a1 :: st) h r h' := g_callS hC hM hV hL hd hdd rfl rfl hsl hrm k
theorem g_iald0 {n g : Nat} {j : Int32} (q : Nat) (hd : decode cc pc = .ok (.iaload, 1)) (hs : shp[i]? = some (.inr (0, n, g, 0))) (hj : j = nI q) (hq : q < n) (kk : Go X own cc nL d (pc + 1) lv (.int (h g q) :: st) h r h') : Go X own cc nL d pc lv (.int j :: .ref i :: st) h r h' :=
  g_iald q hd hs hj hq (by rw [Nat.zero_add]; exact kk)
theorem g_iast0 {n g : Nat} {j x : Int32} (q : Nat) (hd : decode cc pc = .ok (.iastore, 1)) (hs : shp[i]? = some (.inr (0, n, g, 0))) (hj : j = nI q) (hq : q < n) (kk : Go X own cc nL d (pc + 1) lv st (up h g q x) r h') : Go X own cc nL d pc lv (.int x :: .int j :: .ref i :: st) h r h' :=
  g_iast q hd hs hj hq (by rw [Nat.zero_add]; exact kk)
theorem g_h {h2 : Hp} (e : h = h2) (k : Go X own cc nL d pc lv st h2 r h') : Go X own cc nL d pc lv st h r h' := by rw [e]; exact k
theorem g_st {st2 : List Value} (e : st = st2) (k : Go X own cc nL d pc lv st2 h r h') : Go X own cc nL d pc lv st h r h' := by rw [e]; exact k
theorem g_lv {lv2 : List Value} (e : lv = lv2) (k : Go X own cc nL d pc lv2 st h r h') : Go X own cc nL d pc lv st h r h' := by rw [e]; exact k
end CV
theorem bp_m5 : (Int8.ofInt (-5)).toInt32 = (-5) := by decide
theorem bp_m2 : (Int8.ofInt (-2)).toInt32 = (-2) := by decide
theorem bp_6 : (Int8.ofInt (6)).toInt32 = (6) := by decide
theorem bp_7 : (Int8.ofInt (7)).toInt32 = (7) := by decide
theorem bp_8 : (Int8.ofInt (8)).toInt32 = (8) := by decide
theorem bp_9 : (Int8.ofInt (9)).toInt32 = (9) := by decide
theorem bp_10 : (Int8.ofInt (10)).toInt32 = (10) := by decide
theorem bp_11 : (Int8.ofInt (11)).toInt32 = (11) := by decide
theorem bp_12 : (Int8.ofInt (12)).toInt32 = (12) := by decide
theorem bp_13 : (Int8.ofInt (13)).toInt32 = (13) := by decide
theorem bp_16 : (Int8.ofInt (16)).toInt32 = (16) := by decide
theorem bp_20 : (Int8.ofInt (20)).toInt32 = (20) := by decide
theorem bp_21 : (Int8.ofInt (21)).toInt32 = (21) := by decide
theorem bp_22 : (Int8.ofInt (22)).toInt32 = (22) := by decide
theorem bp_23 : (Int8.ofInt (23)).toInt32 = (23) := by decide
theorem bp_30 : (Int8.ofInt (30)).toInt32 = (30) := by decide
theorem bp_32 : (Int8.ofInt (32)).toInt32 = (32) := by decide
theorem bp_40 : (Int8.ofInt (40)).toInt32 = (40) := by decide
theorem bp_48 : (Int8.ofInt (48)).toInt32 = (48) := by decide
theorem bp_50 : (Int8.ofInt (50)).toInt32 = (50) := by decide
theorem bp_57 : (Int8.ofInt (57)).toInt32 = (57) := by decide
theorem bp_58 : (Int8.ofInt (58)).toInt32 = (58) := by decide
theorem bp_59 : (Int8.ofInt (59)).toInt32 = (59) := by decide
theorem bp_60 : (Int8.ofInt (60)).toInt32 = (60) := by decide
theorem bp_63 : (Int8.ofInt (63)).toInt32 = (63) := by decide
theorem bp_88 : (Int8.ofInt (88)).toInt32 = (88) := by decide
theorem bp_97 : (Int8.ofInt (97)).toInt32 = (97) := by decide
theorem bp_98 : (Int8.ofInt (98)).toInt32 = (98) := by decide
theorem bp_99 : (Int8.ofInt (99)).toInt32 = (99) := by decide
theorem bp_100 : (Int8.ofInt (100)).toInt32 = (100) := by decide
theorem bp_120 : (Int8.ofInt (120)).toInt32 = (120) := by decide
theorem bp_122 : (Int8.ofInt (122)).toInt32 = (122) := by decide
theorem ic_m1 : Int32.ofInt (-1) = (-1) := by decide
theorem ic_0 : Int32.ofInt (0) = (0) := by decide
theorem ic_1 : Int32.ofInt (1) = (1) := by decide
theorem ic_2 : Int32.ofInt (2) = (2) := by decide
theorem ic_3 : Int32.ofInt (3) = (3) := by decide
theorem ic_4 : Int32.ofInt (4) = (4) := by decide
theorem ic_5 : Int32.ofInt (5) = (5) := by decide
theorem lq_1 : Int64.ofNat ((1 : Fin 2) : Nat) = (1) := by decide
theorem sp_160 : (Int16.ofInt (160)).toInt32 = (160) := by decide
theorem sp_200 : (Int16.ofInt (200)).toInt32 = (200) := by decide
theorem sp_255 : (Int16.ofInt (255)).toInt32 = (255) := by decide
theorem sp_4095 : (Int16.ofInt (4095)).toInt32 = (4095) := by decide
theorem sp_9999 : (Int16.ofInt (9999)).toInt32 = (9999) := by decide
theorem sp_12345 : (Int16.ofInt (12345)).toInt32 = (12345) := by decide
theorem ii_n (k : Nat) : nI k + Int32.ofInt 1 = nI (k + 1) := by rw [ic_1, nI_1]
theorem ii_1 (x : Int32) : x + Int32.ofInt 1 = x + 1 := by rw [ic_1]
theorem ii_m1 (x : Int32) : x + Int32.ofInt (-1) = x + (-1) := by rw [ic_m1]

/-! WORDS -/
abbrev Rw : Type := Nat → Int32
def setg (h : Hp) (g : Nat) (m : Rw) : Hp := fun a => if a = g then m else h a
theorem up_setg (h : Hp) (g k : Nat) (v : Int32) : up h g k v = setg h g (upd (h g) k v) := by
  funext a
  unfold up setg
  by_cases e : a = g
  · rw [if_pos e, if_pos e, e]
  · rw [if_neg e, if_neg e]
theorem setg_s (h : Hp) (g : Nat) (m : Rw) : setg h g m g = m := by simp [setg]
theorem setg_n (h : Hp) {g a : Nat} (m : Rw) (n : a ≠ g) : setg h g m a = h a := by simp [setg, n]
theorem setg_2 (h : Hp) (g : Nat) (m m2 : Rw) : setg (setg h g m) g m2 = setg h g m2 := by
  funext a
  by_cases e : a = g <;> simp [setg, e]
theorem setg_id (h : Hp) (g : Nat) : setg h g (h g) = h := by
  funext a
  by_cases e : a = g <;> simp [setg, e]
theorem setg_c (h : Hp) {g g2 : Nat} (n : g ≠ g2) (m m2 : Rw) : setg (setg h g m) g2 m2 = setg (setg h g2 m2) g m := by
  funext a
  by_cases e : a = g
  · subst e; simp [setg, n]
  · simp [setg, e]
theorem upd_s (m : Rw) (k : Nat) (v : Int32) : upd m k v k = v := by simp [upd]
theorem upd_n (m : Rw) {k a : Nat} (v : Int32) (n : a ≠ k) : upd m k v a = m a := by simp [upd, n]
theorem upd_2 (m : Rw) (k : Nat) (v v2 : Int32) : upd (upd m k v) k v2 = upd m k v2 := by
  funext a
  by_cases e : a = k <;> simp [upd, e]
theorem upd_c (m : Rw) {k k2 : Nat} (n : k ≠ k2) (v v2 : Int32) : upd (upd m k v) k2 v2 = upd (upd m k2 v2) k v := by
  funext a
  by_cases e : a = k
  · subst e; simp [upd, n]
  · simp [upd, e]
theorem upd_id (m : Rw) (k : Nat) : upd m k (m k) = m := by
  funext a
  by_cases e : a = k <;> simp [upd, e]
def bI (b : Bool) : Int32 := if b then 1 else 0
theorem bI_0 (b : Bool) : bI b = 0 ↔ b = false := by cases b <;> decide
theorem bI_1 (b : Bool) : bI b = 1 ↔ b = true := by cases b <;> decide
theorem rok_b (b : Bool) : rok (some .boolean) (some (.int (bI b))) := by cases b <;> rfl
theorem nz_b (b : Bool) : narrow .boolean (.int (bI b)) = .int (bI b) := by cases b <;> rfl
theorem fz_b (b : Bool) : fits .boolean (.int (bI b)) = true := by cases b <;> rfl
/-- an inn's cells -/
def InnAt (b g : Nat) : Prop := shp[b]? = some (.inl (0, [.inl (b + 1), .inl (b + 2), .inl (b + 3), .inl (b + 4), .inr (g, 2), .inr (g, 3), .inr (g, 0), .inr (g, 1)])) ∧ shp[b + 1]? = some (.inr (0, 6, g, 4)) ∧ shp[b + 2]? = some (.inr (0, 48, g, 10)) ∧ shp[b + 3]? = some (.inr (0, 30, g, 58)) ∧ shp[b + 4]? = some (.inr (0, 10, g, 88))
theorem inn1 : InnAt 1 1 := ⟨rfl, rfl, rfl, rfl, rfl⟩
theorem inn2 : InnAt 6 2 := ⟨rfl, rfl, rfl, rfl, rfl⟩
theorem inn3 : InnAt 11 3 := ⟨rfl, rfl, rfl, rfl, rfl⟩
def nD (m : Rw) : Nat := (m 2).toNatClampNeg
def nG (m : Rw) : Nat := (m 3).toNatClampNeg
def isD (m : Rw) (x : Int32) : Bool := !decide (x < 0) && !decide (m 2 ≤ x)
def isG (m : Rw) (x : Int32) : Bool := !decide (x < 0) && !decide (m 3 ≤ x)
def dF (m : Rw) (d w : Nat) : Int32 := m (10 + (d * 6 + w))
def gF (m : Rw) (g w : Nat) : Int32 := m (58 + (g * 5 + w))
def pD (m : Rw) (d w : Nat) (v : Int32) : Rw := upd m (10 + (d * 6 + w)) v
def pG (m : Rw) (g w : Nat) (v : Int32) : Rw := upd m (58 + (g * 5 + w)) v
def evn (x : Int32) : Bool := decide (x - x / 2 * 2 = 0)
/-- whether one of the first n guests but g is for a town -/
def othG (m : Rw) (g : Nat) (t : Int32) : Nat → Bool
  | 0 => false
  | n + 1 => othG m g t n || (!decide (n = g) && decide (gF m n 1 = t))
def lft (m : Rw) (g d : Nat) : Bool :=
  if dF m d 0 = 1 then evn (gF m g 0) else if dF m d 0 = 6 then (if evn (dF m d 4) = true then evn (gF m g 0) else !evn (gF m g 0)) else if dF m d 0 = 2 then decide (gF m g 0 < 30) else if dF m d 0 = 3 then (decide (gF m g 0 < 30) || othG m g (dF m d 2) (nG m)) else if dF m d 0 = 4 then evn (dF m d 4) else if dF m d 0 = 5 then true else decide (gF m g 0 < 50)
def bnd (k : Int32) (l : Bool) : Int32 :=
  if k = 1 then (if l then -5 else 5) - 1 else if k = 6 then 1 else if k = 2 then 2 * (if l then -5 else 5) else if k = 3 then 2 * (if l then -5 else 5) + 3 else if k = 4 then 3 - 2 * (if l then -5 else 5) else if k = 5 then 0 else (if l then -5 else 5)
def cst (m : Rw) (g d : Nat) (l : Bool) : Int32 :=
  if dF m d 0 = 1 then (if 2 < dF m d 3 then dF m d 3 - 2 else 0) else if dF m d 0 = 6 then 1 else if dF m d 0 = 2 then dF m d 3 + gF m g 0 / 10 else if dF m d 0 = 3 then 2 * (dF m d 3 + gF m g 0 / 10) else if dF m d 0 = 4 then (if l then 2 * (dF m d 3 + gF m g 0 / 10) else dF m d 3 + gF m g 0 / 10) else dF m d 3
def twn (m : Rw) (d : Nat) (l : Bool) : Int32 := dF m d (if l then 1 else 2)
def hld (x lo hi : Int32) : Int32 := if x < lo then lo else if hi < x then hi else x
def eatR (m : Rw) (g d : Nat) : Rw :=
  pD (pG (pG (pG (pG (pG m g 2 (hld (gF m g 2 + cst m g d (lft m g d)) 0 99999)) g 1 (twn m d (lft m g d))) g 3 (gF m g 3 ||| 1 <<< (twn m d (lft m g d) &&& 31))) g 4 (hld (gF m g 4 + 1) 0 9999)) g 0 (hld (gF m g 0 + bnd (dF m d 0) (lft m g d)) 0 99)) d 4 (hld (dF m d 4 + 1) 0 9999)
def mealOf (m : Rw) : Nat := (m (4 + (m 0).toNatClampNeg % 6)).toNatClampNeg
def dayR (m : Rw) : Rw := upd (if mealOf m / 10 < nG m ∧ mealOf m % 10 < nD m ∧ dF m (mealOf m % 10) 5 = 0 then eatR m (mealOf m / 10) (mealOf m % 10) else m) 0 (hld (m 0 + 1) 0 99999)
def daysR (m : Rw) : Nat → Rw
  | 0 => m
  | n + 1 => dayR (daysR m n)
/-! what holds of an inn's row -/
def dTop : Nat → Nat
  | 0 => 6 | 1 => 11 | 2 => 11 | 3 => 99 | 4 => 9999 | _ => 1
def gTop : Nat → Nat
  | 0 => 99 | 1 => 11 | 2 => 99999 | 3 => 4095 | _ => 9999
def okc (k x : Nat) : Prop := if k = 0 then x ≤ 99999 else if k = 2 then x ≤ 8 else if k = 3 then x ≤ 6 else if k < 10 then x / 10 < 6 ∧ x % 10 < 8 else if k < 58 then x ≤ dTop ((k - 10) % 6) else x ≤ gTop ((k - 58) % 5)
def In (m : Rw) : Prop := (∀ k, k < 88 → k ≠ 1 → ∃ x, okc k x ∧ m k = nI x) ∧ ∀ s, s < 10 → m (88 + s) = -1 ∨ ∃ x, x < nD m ∧ m (88 + s) = nI x
theorem In.d {m : Rw} (h : In m) {d w : Nat} (hd : d < 8) (hw : w < 6) : ∃ x, x ≤ dTop w ∧ dF m d w = nI x := by
  obtain ⟨x, hx, e⟩ := h.1 (10 + (d * 6 + w)) (by omega) (by omega)
  refine ⟨x, ?_, e⟩
  unfold okc at hx
  rw [if_neg (by omega), if_neg (by omega), if_neg (by omega), if_neg (by omega), if_pos (by omega), show (10 + (d * 6 + w) - 10) % 6 = w by omega] at hx
  exact hx
theorem In.g {m : Rw} (h : In m) {g w : Nat} (hg : g < 6) (hw : w < 5) : ∃ x, x ≤ gTop w ∧ gF m g w = nI x := by
  obtain ⟨x, hx, e⟩ := h.1 (58 + (g * 5 + w)) (by omega) (by omega)
  refine ⟨x, ?_, e⟩
  unfold okc at hx
  rw [if_neg (by omega), if_neg (by omega), if_neg (by omega), if_neg (by omega), if_neg (by omega), show (58 + (g * 5 + w) - 58) % 5 = w by omega] at hx
  exact hx
theorem In.nD {m : Rw} (h : In m) : nD m ≤ 8 ∧ m 2 = nI (nD m) := by
  obtain ⟨x, hx, e⟩ := h.1 2 (by omega) (by omega)
  have h1 : x ≤ 8 := by simpa [okc] using hx
  have h2 : _root_.Jvm.Pilot.CForkInnLaw_law_r3082_bfc7c5.nD m = x := by unfold Jvm.Pilot.CForkInnLaw_law_r3082_bfc7c5.nD; rw [e]; exact nI_clamp (by omega)
  rw [h2]; exact ⟨h1, e⟩
theorem In.nG {m : Rw} (h : In m) : nG m ≤ 6 ∧ m 3 = nI (nG m) := by
  obtain ⟨x, hx, e⟩ := h.1 3 (by omega) (by omega)
  have h1 : x ≤ 6 := by simpa [okc] using hx
  have h2 : _root_.Jvm.Pilot.CForkInnLaw_law_r3082_bfc7c5.nG m = x := by unfold Jvm.Pilot.CForkInnLaw_law_r3082_bfc7c5.nG; rw [e]; exact nI_clamp (by omega)
  rw [h2]; exact ⟨h1, e⟩
theorem In.day {m : Rw} (h : In m) : ∃ t, t ≤ 99999 ∧ m 0 = nI t := by
  obtain ⟨x, hx, e⟩ := h.1 0 (by omega) (by omega)
  exact ⟨x, by simpa [okc] using hx, e⟩
theorem In.meal {m : Rw} (h : In m) {i : Nat} (hi : i < 6) : ∃ x, x / 10 < 6 ∧ x % 10 < 8 ∧ m (4 + i) = nI x := by
  obtain ⟨x, hx, e⟩ := h.1 (4 + i) (by omega) (by omega)
  refine ⟨x, ?_⟩
  unfold okc at hx
  rw [if_neg (by omega), if_neg (by omega), if_neg (by omega), if_pos (by omega)] at hx
  exact ⟨hx.1, hx.2, e⟩
theorem isD_nI {m : Rw} {D d : Nat} (e : m 2 = nI D) (hD : D < 2 ^ 31) (hd : d < 2 ^ 31) : isD m (nI d) = decide (d < D) := by
  unfold isD
  rw [e, decide_eq_false (nI_pos hd), Bool.not_false, Bool.true_and]
  by_cases q : d < D
  · rw [decide_eq_true q, decide_eq_false (nI_ge q hD)]; rfl
  · rw [decide_eq_false q, decide_eq_true (nI_le (by omega) hd)]; rfl
theorem isG_nI {m : Rw} {D d : Nat} (e : m 3 = nI D) (hD : D < 2 ^ 31) (hd : d < 2 ^ 31) : isG m (nI d) = decide (d < D) := by
  unfold isG
  rw [e, decide_eq_false (nI_pos hd), Bool.not_false, Bool.true_and]
  by_cases q : d < D
  · rw [decide_eq_true q, decide_eq_false (nI_ge q hD)]; rfl
  · rw [decide_eq_false q, decide_eq_true (nI_le (by omega) hd)]; rfl
theorem isD_of {m : Rw} (h : In m) {x : Int32} (hx : isD m x = true) : ∃ d, d < nD m ∧ d < 8 ∧ x = nI d := by
  unfold isD at hx
  simp only [Bool.and_eq_true, Bool.not_eq_true', decide_eq_false_iff_not] at hx
  obtain ⟨j, hj, rfl⟩ := nI_of hx.1
  have h1 := h.nD
  have h2 : j < nD m := by
    rcases Nat.lt_or_ge j (nD m) with q | q
    · exact q
    · exact absurd (by rw [h1.2]; exact nI_le q hj) hx.2
  exact ⟨j, h2, by omega, rfl⟩
theorem isG_of {m : Rw} (h : In m) {x : Int32} (hx : isG m x = true) : ∃ d, d < nG m ∧ d < 6 ∧ x = nI d := by
  unfold isG at hx
  simp only [Bool.and_eq_true, Bool.not_eq_true', decide_eq_false_iff_not] at hx
  obtain ⟨j, hj, rfl⟩ := nI_of hx.1
  have h1 := h.nG
  have h2 : j < nG m := by
    rcases Nat.lt_or_ge j (nG m) with q | q
    · exact q
    · exact absurd (by rw [h1.2]; exact nI_le q hj) hx.2
  exact ⟨j, h2, by omega, rfl⟩
theorem ix6 (d w : Nat) : nI d * 6 + nI w = nI (d * 6 + w) := by rw [show (6 : Int32) = nI 6 from rfl, pk_mul, nI_add]
theorem ix5 (d w : Nat) : nI d * 5 + nI w = nI (d * 5 + w) := by rw [show (5 : Int32) = nI 5 from rfl, pk_mul, nI_add]
theorem jx6 (d w : Nat) : 10 + 6 * nI d + nI w = nI (10 + (d * 6 + w)) := by rw [show (6 : Int32) = nI 6 from rfl, show (10 : Int32) = nI 10 from rfl, pk_mul, nI_add, nI_add, show 10 + 6 * d + w = 10 + (d * 6 + w) by omega]
theorem jx5 (d w : Nat) : 58 + 5 * nI d + nI w = nI (58 + (d * 5 + w)) := by rw [show (5 : Int32) = nI 5 from rfl, show (58 : Int32) = nI 58 from rfl, pk_mul, nI_add, nI_add, show 58 + 5 * d + w = 58 + (d * 5 + w) by omega]
theorem rem_nI {a b : Nat} (ha : a < 2 ^ 31) (h0 : 0 < b) (hb : b < 2 ^ 31) : nI a - nI a / nI b * nI b = nI (a % b) := pk_rem ha h0 hb
end
section
/-! THE INN (class ForkInn$Inn) -/
theorem lp_no {N k : Nat} {x : Int32} (e : x = nI N) (hN : N < 2 ^ 31) (hk : k < N) (c : x ≤ nI k) : False := nI_ge hk hN (e ▸ c)
theorem lp_yes {N : Nat} {x : Int32} (e : x = nI N) (hN : N < 2 ^ 31) (c : ¬ x ≤ nI N) : False := c (e ▸ nI_le (Nat.le_refl N) hN)
theorem loop_up {P : Nat → Prop} (N : Nat) (base : P N) (step : ∀ k, k < N → P (k + 1) → P k) : ∀ k, k ≤ N → P k := by
  intro k hk
  obtain ⟨n, rfl⟩ : ∃ n, N = k + n := ⟨N - k, by omega⟩
  clear hk
  induction n generalizing k with
  | zero => exact base
  | succ n ih => exact step k (by omega) (ih (k + 1) (by rw [show k + 1 + n = k + (n + 1) by omega]; exact base) (by rw [show k + 1 + n = k + (n + 1) by omega]; exact step))
set_option maxRecDepth 100000 in
set_option maxHeartbeats 4000000 in
theorem c_X0_isDish {X : Sc} {h : Hp} {b g : Nat} (hb : InnAt b g) {x : Int32} : Ct X yX0_isDish cX0_isDish 2 (some .boolean) 0 [.ref b, .int x] h (some (.int (bI (isD (h g) x)))) h := by
  refine ⟨rok_b _, ?_⟩
  refine g_iload_n dX0_isDish_0 rfl ?_
  refine g_if_lt 16 dX0_isDish_1 (by decide) (fun c1 => ?_) (fun c1 => ?_)
  · refine g_iconst dX0_isDish_16 ic_0 ?_
    exact g_ireturn dX0_isDish_17 (by simp [isD, bI, *]) rfl
  · refine g_iload_n dX0_isDish_4 rfl ?_
    refine g_aload_n dX0_isDish_5 rfl ?_
    refine g_getI dX0_isDish_6 fl_X0_34 hb.1 rfl ?_
    refine g_icmp_ge 16 dX0_isDish_9 (by decide) (fun c9 => ?_) (fun c9 => ?_)
    · refine g_iconst dX0_isDish_16 ic_0 ?_
      exact g_ireturn dX0_isDish_17 (by simp [isD, bI, *]) rfl
    · refine g_iconst dX0_isDish_12 ic_1 ?_
      refine g_goto 17 dX0_isDish_13 (by decide) ?_
      exact g_ireturn dX0_isDish_17 (by simp [isD, bI, *]) rfl

set_option maxRecDepth 100000 in
set_option maxHeartbeats 4000000 in
theorem c_X0_isGuest {X : Sc} {h : Hp} {b g : Nat} (hb : InnAt b g) {x : Int32} : Ct X yX0_isGuest cX0_isGuest 2 (some .boolean) 0 [.ref b, .int x] h (some (.int (bI (isG (h g) x)))) h := by
  refine ⟨rok_b _, ?_⟩
  refine g_iload_n dX0_isGuest_0 rfl ?_
  refine g_if_lt 16 dX0_isGuest_1 (by decide) (fun c1 => ?_) (fun c1 => ?_)
  · refine g_iconst dX0_isGuest_16 ic_0 ?_
    exact g_ireturn dX0_isGuest_17 (by simp [isG, bI, *]) rfl
  · refine g_iload_n dX0_isGuest_4 rfl ?_
    refine g_aload_n dX0_isGuest_5 rfl ?_
    refine g_getI dX0_isGuest_6 fl_X0_37 hb.1 rfl ?_
    refine g_icmp_ge 16 dX0_isGuest_9 (by decide) (fun c9 => ?_) (fun c9 => ?_)
    · refine g_iconst dX0_isGuest_16 ic_0 ?_
      exact g_ireturn dX0_isGuest_17 (by simp [isG, bI, *]) rfl
    · refine g_iconst dX0_isGuest_12 ic_1 ?_
      refine g_goto 17 dX0_isGuest_13 (by decide) ?_
      exact g_ireturn dX0_isGuest_17 (by simp [isG, bI, *]) rfl

set_option maxRecDepth 100000 in
set_option maxHeartbeats 4000000 in
theorem c_X0_dishFact {X : Sc} {h : Hp} {b g : Nat} (hb : InnAt b g) {d w : Nat} (hd : d < 8) (hw : w < 6) : Ct X yX0_dishFact cX0_dishFact 3 (some .int) 0 [.ref b, .int (nI d), .int (nI w)] h (some (.int (dF (h g) d w))) h := by
  refine ⟨rfl, ?_⟩
  refine g_aload_n dX0_dishFact_0 rfl ?_
  refine g_getR dX0_dishFact_1 fl_X0_15 hb.1 rfl ?_
  refine g_iload_n dX0_dishFact_4 rfl ?_
  refine g_bipush dX0_dishFact_5 bp_6 ?_
  refine g_imul dX0_dishFact_7 ?_
  refine g_iload_n dX0_dishFact_8 rfl ?_
  refine g_iadd dX0_dishFact_9 ?_
  refine g_iald (d * 6 + w) dX0_dishFact_10 hb.2.2.1 (ix6 _ _) (by omega) ?_
  exact g_ireturn dX0_dishFact_11 rfl rfl

set_option maxRecDepth 100000 in
set_option maxHeartbeats 4000000 in
theorem c_X0_guestFact {X : Sc} {h : Hp} {b g : Nat} (hb : InnAt b g) {e w : Nat} (he : e < 6) (hw : w < 5) : Ct X yX0_guestFact cX0_guestFact 3 (some .int) 0 [.ref b, .int (nI e), .int (nI w)] h (some (.int (gF (h g) e w))) h := by
  refine ⟨rfl, ?_⟩
  refine g_aload_n dX0_guestFact_0 rfl ?_
  refine g_getR dX0_guestFact_1 fl_X0_18 hb.1 rfl ?_
  refine g_iload_n dX0_guestFact_4 rfl ?_
  refine g_iconst dX0_guestFact_5 ic_5 ?_
  refine g_imul dX0_guestFact_6 ?_
  refine g_iload_n dX0_guestFact_7 rfl ?_
  refine g_iadd dX0_guestFact_8 ?_
  refine g_iald (e * 5 + w) dX0_guestFact_9 hb.2.2.2.1 (ix5 _ _) (by omega) ?_
  exact g_ireturn dX0_guestFact_10 rfl rfl

set_option maxRecDepth 100000 in
set_option maxHeartbeats 4000000 in
theorem c_X0_putDishFact {X : Sc} {h : Hp} {b g : Nat} (hb : InnAt b g) {d w : Nat} (hd : d < 8) (hw : w < 6) {v : Int32} : Ct X yX0_putDishFact cX0_putDishFact 4 none 0 [.ref b, .int (nI d), .int (nI w), .int v] h none (setg h g (pD (h g) d w v)) := by
  refine ⟨trivial, ?_⟩
  refine g_aload_n dX0_putDishFact_0 rfl ?_
  refine g_getR dX0_putDishFact_1 fl_X0_15 hb.1 rfl ?_
  refine g_iload_n dX0_putDishFact_4 rfl ?_
  refine g_bipush dX0_putDishFact_5 bp_6 ?_
  refine g_imul dX0_putDishFact_7 ?_
  refine g_iload_n dX0_putDishFact_8 rfl ?_
  refine g_iadd dX0_putDishFact_9 ?_
  refine g_iload_n dX0_putDishFact_10 rfl ?_
  refine g_iast (d * 6 + w) dX0_putDishFact_11 hb.2.2.1 (ix6 _ _) (by omega) ?_
  exact g_return dX0_putDishFact_12 rfl (up_setg _ _ _ _)

set_option maxRecDepth 100000 in
set_option maxHeartbeats 4000000 in
theorem c_X0_putGuestFact {X : Sc} {h : Hp} {b g : Nat} (hb : InnAt b g) {e w : Nat} (he : e < 6) (hw : w < 5) {v : Int32} : Ct X yX0_putGuestFact cX0_putGuestFact 4 none 0 [.ref b, .int (nI e), .int (nI w), .int v] h none (setg h g (pG (h g) e w v)) := by
  refine ⟨trivial, ?_⟩
  refine g_aload_n dX0_putGuestFact_0 rfl ?_
  refine g_getR dX0_putGuestFact_1 fl_X0_18 hb.1 rfl ?_
  refine g_iload_n dX0_putGuestFact_4 rfl ?_
  refine g_iconst dX0_putGuestFact_5 ic_5 ?_
  refine g_imul dX0_putGuestFact_6 ?_
  refine g_iload_n dX0_putGuestFact_7 rfl ?_
  refine g_iadd dX0_putGuestFact_8 ?_
  refine g_iload_n dX0_putGuestFact_9 rfl ?_
  refine g_iast (e * 5 + w) dX0_putGuestFact_10 hb.2.2.2.1 (ix5 _ _) (by omega) ?_
  exact g_return dX0_putGuestFact_11 rfl (up_setg _ _ _ _)

set_option maxRecDepth 100000 in
set_option maxHeartbeats 4000000 in
theorem c_X0_isOff {X : Sc} {h : Hp} {b g : Nat} (hb : InnAt b g) {d : Nat} (hd : d < 8) : Ct X yX0_isOff cX0_isOff 2 (some .boolean) 1 [.ref b, .int (nI d)] h (some (.int (bI (decide (dF (h g) d 5 = 1))))) h := by
  refine ⟨rok_b _, ?_⟩
  refine g_aload_n dX0_isOff_0 rfl ?_
  refine g_iload_n dX0_isOff_1 rfl ?_
  refine g_iconst dX0_isOff_2 ic_5 ?_
  refine g_callV2i (c_X0_dishFact (w := 5) hb hd (by decide)) mi_X0_dishFact mv_X0_dishFact ml_X0_43 dX0_isOff_3 hb.1 rfl (by decide) (Nat.le_of_ble_eq_true rfl) (Nat.le_of_ble_eq_true rfl) ?_
  refine g_iconst dX0_isOff_6 ic_1 ?_
  refine g_icmp_ne 14 dX0_isOff_7 (by decide) (fun c7 => ?_) (fun c7 => ?_)
  · refine g_iconst dX0_isOff_14 ic_0 ?_
    exact g_ireturn dX0_isOff_15 (by simp [bI, *]) rfl
  · refine g_iconst dX0_isOff_10 ic_1 ?_
    refine g_goto 15 dX0_isOff_11 (by decide) ?_
    exact g_ireturn dX0_isOff_15 (by simp [bI, *]) rfl

def newD (m : Rw) (kind left right : Int32) : Rw := pD (pD (pD (pD (pD (pD (upd m 2 (m 2 + 1)) (nD m) 0 kind) (nD m) 1 left) (nD m) 2 right) (nD m) 3 10) (nD m) 4 0) (nD m) 5 0
def newG (m : Rw) (bent : Int32) : Rw := pG (pG (pG (pG (pG (upd m 3 (m 3 + 1)) (nG m) 0 bent) (nG m) 1 0) (nG m) 2 0) (nG m) 3 0) (nG m) 4 0
set_option maxRecDepth 100000 in
set_option maxHeartbeats 4000000 in
theorem c_X0_addDish {X : Sc} {h : Hp} {b g : Nat} (hb : InnAt b g) {x y z : Int32} (e2 : h g 2 = nI (nD (h g))) (hn : nD (h g) < 8) : Ct X yX0_addDish cX0_addDish 5 (some .int) 1 [.ref b, .int x, .int y, .int z] h (some (.int (nI (nD (h g))))) (setg h g (newD (h g) x y z)) := by
  refine ⟨rfl, ?_⟩
  refine g_aload_n dX0_addDish_0 rfl ?_
  refine g_getI dX0_addDish_1 fl_X0_34 hb.1 rfl ?_
  refine g_st (st2 := [.int (nI (nD (h g)))]) (by rw [e2]) ?_
  refine g_istore dX0_addDish_4 (by decide) rfl ?_
  refine g_aload_n dX0_addDish_6 rfl ?_
  refine g_dup dX0_addDish_7 rfl ?_
  refine g_getI dX0_addDish_8 fl_X0_34 hb.1 rfl ?_
  refine g_iconst dX0_addDish_11 ic_1 ?_
  refine g_iadd dX0_addDish_12 ?_
  refine g_putI dX0_addDish_13 fl_X0_34 fp_0_4 hb.1 rfl ?_
  refine g_aload_n dX0_addDish_16 rfl ?_
  refine g_iload dX0_addDish_17 rfl ?_
  refine g_iconst dX0_addDish_19 ic_0 ?_
  refine g_iload_n dX0_addDish_20 rfl ?_
  refine g_callV3v (c_X0_putDishFact (d := nD (h g)) (w := 0) hb hn (by decide)) mi_X0_putDishFact mv_X0_putDishFact ml_X0_47 dX0_addDish_21 hb.1 rfl (by decide) (Nat.le_of_ble_eq_true rfl) (Nat.le_of_ble_eq_true rfl) ?_
  refine g_aload_n dX0_addDish_24 rfl ?_
  refine g_iload dX0_addDish_25 rfl ?_
  refine g_iconst dX0_addDish_27 ic_1 ?_
  refine g_iload_n dX0_addDish_28 rfl ?_
  refine g_callV3v (c_X0_putDishFact (d := nD (h g)) (w := 1) hb hn (by decide)) mi_X0_putDishFact mv_X0_putDishFact ml_X0_47 dX0_addDish_29 hb.1 rfl (by decide) (Nat.le_of_ble_eq_true rfl) (Nat.le_of_ble_eq_true rfl) ?_
  refine g_aload_n dX0_addDish_32 rfl ?_
  refine g_iload dX0_addDish_33 rfl ?_
  refine g_iconst dX0_addDish_35 ic_2 ?_
  refine g_iload_n dX0_addDish_36 rfl ?_
  refine g_callV3v (c_X0_putDishFact (d := nD (h g)) (w := 2) hb hn (by decide)) mi_X0_putDishFact mv_X0_putDishFact ml_X0_47 dX0_addDish_37 hb.1 rfl (by decide) (Nat.le_of_ble_eq_true rfl) (Nat.le_of_ble_eq_true rfl) ?_
  refine g_aload_n dX0_addDish_40 rfl ?_
  refine g_iload dX0_addDish_41 rfl ?_
  refine g_iconst dX0_addDish_43 ic_3 ?_
  refine g_bipush dX0_addDish_44 bp_10 ?_
  refine g_callV3v (c_X0_putDishFact (d := nD (h g)) (w := 3) hb hn (by decide)) mi_X0_putDishFact mv_X0_putDishFact ml_X0_47 dX0_addDish_46 hb.1 rfl (by decide) (Nat.le_of_ble_eq_true rfl) (Nat.le_of_ble_eq_true rfl) ?_
  refine g_aload_n dX0_addDish_49 rfl ?_
  refine g_iload dX0_addDish_50 rfl ?_
  refine g_iconst dX0_addDish_52 ic_4 ?_
  refine g_iconst dX0_addDish_53 ic_0 ?_
  refine g_callV3v (c_X0_putDishFact (d := nD (h g)) (w := 4) hb hn (by decide)) mi_X0_putDishFact mv_X0_putDishFact ml_X0_47 dX0_addDish_54 hb.1 rfl (by decide) (Nat.le_of_ble_eq_true rfl) (Nat.le_of_ble_eq_true rfl) ?_
  refine g_aload_n dX0_addDish_57 rfl ?_
  refine g_iload dX0_addDish_58 rfl ?_
  refine g_iconst dX0_addDish_60 ic_5 ?_
  refine g_iconst dX0_addDish_61 ic_0 ?_
  refine g_callV3v (c_X0_putDishFact (d := nD (h g)) (w := 5) hb hn (by decide)) mi_X0_putDishFact mv_X0_putDishFact ml_X0_47 dX0_addDish_62 hb.1 rfl (by decide) (Nat.le_of_ble_eq_true rfl) (Nat.le_of_ble_eq_true rfl) ?_
  refine g_iload dX0_addDish_65 rfl ?_
  exact g_ireturn dX0_addDish_67 rfl (by simp [setg_s, setg_2, up_setg, newD])

set_option maxRecDepth 100000 in
set_option maxHeartbeats 4000000 in
theorem c_X0_addGuest {X : Sc} {h : Hp} {b g : Nat} (hb : InnAt b g) {x : Int32} (e3 : h g 3 = nI (nG (h g))) (hn : nG (h g) < 6) : Ct X yX0_addGuest cX0_addGuest 3 (some .int) 1 [.ref b, .int x] h (some (.int (nI (nG (h g))))) (setg h g (newG (h g) x)) := by
  refine ⟨rfl, ?_⟩
  refine g_aload_n dX0_addGuest_0 rfl ?_
  refine g_getI dX0_addGuest_1 fl_X0_37 hb.1 rfl ?_
  refine g_st (st2 := [.int (nI (nG (h g)))]) (by rw [e3]) ?_
  refine g_istore_n dX0_addGuest_4 (by decide) rfl ?_
  refine g_aload_n dX0_addGuest_5 rfl ?_
  refine g_dup dX0_addGuest_6 rfl ?_
  refine g_getI dX0_addGuest_7 fl_X0_37 hb.1 rfl ?_
  refine g_iconst dX0_addGuest_10 ic_1 ?_
  refine g_iadd dX0_addGuest_11 ?_
  refine g_putI dX0_addGuest_12 fl_X0_37 fp_0_5 hb.1 rfl ?_
  refine g_aload_n dX0_addGuest_15 rfl ?_
  refine g_iload_n dX0_addGuest_16 rfl ?_
  refine g_iconst dX0_addGuest_17 ic_0 ?_
  refine g_iload_n dX0_addGuest_18 rfl ?_
  refine g_callV3v (c_X0_putGuestFact (e := nG (h g)) (w := 0) hb hn (by decide)) mi_X0_putGuestFact mv_X0_putGuestFact ml_X0_51 dX0_addGuest_19 hb.1 rfl (by decide) (Nat.le_of_ble_eq_true rfl) (Nat.le_of_ble_eq_true rfl) ?_
  refine g_aload_n dX0_addGuest_22 rfl ?_
  refine g_iload_n dX0_addGuest_23 rfl ?_
  refine g_iconst dX0_addGuest_24 ic_1 ?_
  refine g_iconst dX0_addGuest_25 ic_0 ?_
  refine g_callV3v (c_X0_putGuestFact (e := nG (h g)) (w := 1) hb hn (by decide)) mi_X0_putGuestFact mv_X0_putGuestFact ml_X0_51 dX0_addGuest_26 hb.1 rfl (by decide) (Nat.le_of_ble_eq_true rfl) (Nat.le_of_ble_eq_true rfl) ?_
  refine g_aload_n dX0_addGuest_29 rfl ?_
  refine g_iload_n dX0_addGuest_30 rfl ?_
  refine g_iconst dX0_addGuest_31 ic_2 ?_
  refine g_iconst dX0_addGuest_32 ic_0 ?_
  refine g_callV3v (c_X0_putGuestFact (e := nG (h g)) (w := 2) hb hn (by decide)) mi_X0_putGuestFact mv_X0_putGuestFact ml_X0_51 dX0_addGuest_33 hb.1 rfl (by decide) (Nat.le_of_ble_eq_true rfl) (Nat.le_of_ble_eq_true rfl) ?_
  refine g_aload_n dX0_addGuest_36 rfl ?_
  refine g_iload_n dX0_addGuest_37 rfl ?_
  refine g_iconst dX0_addGuest_38 ic_3 ?_
  refine g_iconst dX0_addGuest_39 ic_0 ?_
  refine g_callV3v (c_X0_putGuestFact (e := nG (h g)) (w := 3) hb hn (by decide)) mi_X0_putGuestFact mv_X0_putGuestFact ml_X0_51 dX0_addGuest_40 hb.1 rfl (by decide) (Nat.le_of_ble_eq_true rfl) (Nat.le_of_ble_eq_true rfl) ?_
  refine g_aload_n dX0_addGuest_43 rfl ?_
  refine g_iload_n dX0_addGuest_44 rfl ?_
  refine g_iconst dX0_addGuest_45 ic_4 ?_
  refine g_iconst dX0_addGuest_46 ic_0 ?_
  refine g_callV3v (c_X0_putGuestFact (e := nG (h g)) (w := 4) hb hn (by decide)) mi_X0_putGuestFact mv_X0_putGuestFact ml_X0_51 dX0_addGuest_47 hb.1 rfl (by decide) (Nat.le_of_ble_eq_true rfl) (Nat.le_of_ble_eq_true rfl) ?_
  refine g_iload_n dX0_addGuest_50 rfl ?_
  exact g_ireturn dX0_addGuest_51 rfl (by simp [setg_s, setg_2, up_setg, newG])

set_option maxRecDepth 100000 in
set_option maxHeartbeats 4000000 in
theorem c_X0_planMeal {X : Sc} {h : Hp} {b g : Nat} (hb : InnAt b g) {i : Nat} (hi : i < 6) {x y : Int32} : Ct X yX0_planMeal cX0_planMeal 4 none 0 [.ref b, .int (nI i), .int x, .int y] h none (setg h g (upd (h g) (4 + i) (10 * x + y))) := by
  refine ⟨trivial, ?_⟩
  refine g_aload_n dX0_planMeal_0 rfl ?_
  refine g_getR dX0_planMeal_1 fl_X0_11 hb.1 rfl ?_
  refine g_iload_n dX0_planMeal_4 rfl ?_
  refine g_bipush dX0_planMeal_5 bp_10 ?_
  refine g_iload_n dX0_planMeal_7 rfl ?_
  refine g_imul dX0_planMeal_8 ?_
  refine g_iload_n dX0_planMeal_9 rfl ?_
  refine g_iadd dX0_planMeal_10 ?_
  refine g_iast i dX0_planMeal_11 hb.2.1 rfl hi ?_
  exact g_return dX0_planMeal_12 rfl (up_setg _ _ _ _)

set_option maxRecDepth 100000 in
set_option maxHeartbeats 4000000 in
theorem c_X0_guestOfMeal {X : Sc} {h : Hp} {x : Int32} : Ct X yX0_guestOfMeal cX0_guestOfMeal 1 (some .int) 0 [.int x] h (some (.int (x / 10))) h := by
  refine ⟨rfl, ?_⟩
  refine g_iload_n dX0_guestOfMeal_0 rfl ?_
  refine g_bipush dX0_guestOfMeal_1 bp_10 ?_
  refine g_idiv dX0_guestOfMeal_3 (by decide) ?_
  exact g_ireturn dX0_guestOfMeal_4 rfl rfl

set_option maxRecDepth 100000 in
set_option maxHeartbeats 4000000 in
theorem c_X0_dishOfMeal {X : Sc} {h : Hp} {x : Int32} : Ct X yX0_dishOfMeal cX0_dishOfMeal 1 (some .int) 0 [.int x] h (some (.int (x - x / 10 * 10))) h := by
  refine ⟨rfl, ?_⟩
  refine g_iload_n dX0_dishOfMeal_0 rfl ?_
  refine g_bipush dX0_dishOfMeal_1 bp_10 ?_
  refine g_irem dX0_dishOfMeal_3 (by decide) ?_
  exact g_ireturn dX0_dishOfMeal_4 rfl rfl

theorem othG_up {m : Rw} {g : Nat} {t : Int32} {k : Nat} (h : othG m g t k = true) : ∀ n, k ≤ n → othG m g t n = true := by
  intro n hn
  induction n with
  | zero => rwa [Nat.le_zero.mp hn] at h
  | succ n ih =>
    rcases Nat.lt_or_ge k (n + 1) with q | q
    · simp [othG, ih (by omega)]
    · rwa [show n + 1 = k by omega]
set_option maxRecDepth 100000 in
set_option maxHeartbeats 4000000 in
theorem l_X0_anotherIsFor {X : Sc} {h : Hp} {b g : Nat} (hb : InnAt b g) (hI : In (h g)) {e : Nat} (he : e < 6) {t : Int32} : ∀ k, k ≤ nG (h g) → othG (h g) e t k = false → Go X RX0 cX0_anotherIsFor 4 0 2 [.ref b, .int (nI e), .int t, .int (nI k)] [] h (some (.int (bI (othG (h g) e t (nG (h g)))))) h := by
  have hN := hI.nG.1
  refine loop_up (nG (h g)) ?_ ?_
  · intro hy
    refine g_iload_n dX0_anotherIsFor_2 rfl ?_
    refine g_aload_n dX0_anotherIsFor_3 rfl ?_
    refine g_getI dX0_anotherIsFor_4 fl_X0_37 hb.1 rfl ?_
    refine g_icmp_ge 37 dX0_anotherIsFor_7 (by decide) (fun c7 => ?_) (fun c7 => ?_)
    · refine g_iconst dX0_anotherIsFor_37 ic_0 ?_
      exact g_ireturn dX0_anotherIsFor_38 (by rw [hy]; rfl) rfl
    · exact (lp_yes (hI.nG.2) (by omega) c7).elim
  · intro k hk ih hy
    refine g_iload_n dX0_anotherIsFor_2 rfl ?_
    refine g_aload_n dX0_anotherIsFor_3 rfl ?_
    refine g_getI dX0_anotherIsFor_4 fl_X0_37 hb.1 rfl ?_
    refine g_icmp_ge 37 dX0_anotherIsFor_7 (by decide) (fun c7 => ?_) (fun c7 => ?_)
    · exact (lp_no (hI.nG.2) (by omega) hk c7).elim
    · refine g_iload_n dX0_anotherIsFor_10 rfl ?_
      refine g_iload_n dX0_anotherIsFor_11 rfl ?_
      refine g_icmp_eq 31 dX0_anotherIsFor_12 (by decide) (fun c12 => ?_) (fun c12 => ?_)
      · refine g_iinc dX0_anotherIsFor_31 rfl (ii_n _) (by decide) rfl ?_
        refine g_goto 2 dX0_anotherIsFor_34 (by decide) ?_
        first
        | exact ih (by have q := (nI_eq (by omega) (by omega)).mp c12; subst q; simp [othG, hy])
        | exact ih (by simp [othG, hy, gF, c26])
      · have n12 : ¬ k = e := fun q => c12 (by rw [q])
        refine g_aload_n dX0_anotherIsFor_15 rfl ?_
        refine g_getR dX0_anotherIsFor_16 fl_X0_18 hb.1 rfl ?_
        refine g_iload_n dX0_anotherIsFor_19 rfl ?_
        refine g_iconst dX0_anotherIsFor_20 ic_5 ?_
        refine g_imul dX0_anotherIsFor_21 ?_
        refine g_iconst dX0_anotherIsFor_22 ic_1 ?_
        refine g_iadd dX0_anotherIsFor_23 ?_
        refine g_iald (k * 5 + 1) dX0_anotherIsFor_24 hb.2.2.2.1 (ix5 k 1) (by omega) ?_
        refine g_iload_n dX0_anotherIsFor_25 rfl ?_
        refine g_icmp_ne 31 dX0_anotherIsFor_26 (by decide) (fun c26 => ?_) (fun c26 => ?_)
        · refine g_iinc dX0_anotherIsFor_31 rfl (ii_n _) (by decide) rfl ?_
          refine g_goto 2 dX0_anotherIsFor_34 (by decide) ?_
          first
          | exact ih (by have q := (nI_eq (by omega) (by omega)).mp c12; subst q; simp [othG, hy])
          | exact ih (by simp [othG, hy, gF, c26])
        · refine g_iconst dX0_anotherIsFor_29 ic_1 ?_
          exact g_ireturn dX0_anotherIsFor_30 (by rw [othG_up (k := k + 1) (by simp [othG, gF, c26, n12]) _ (by omega)]; rfl) rfl

set_option maxRecDepth 100000 in
set_option maxHeartbeats 4000000 in
theorem c_X0_anotherIsFor {X : Sc} {h : Hp} {b g : Nat} (hb : InnAt b g) (hI : In (h g)) {e : Nat} (he : e < 6) {t : Int32} : Ct X yX0_anotherIsFor cX0_anotherIsFor 4 (some .boolean) 0 [.ref b, .int (nI e), .int t] h (some (.int (bI (othG (h g) e t (nG (h g)))))) h := by
  refine ⟨rok_b _, ?_⟩
  refine g_iconst dX0_anotherIsFor_0 ic_0 ?_
  refine g_istore_n dX0_anotherIsFor_1 (by decide) rfl ?_
  exact l_X0_anotherIsFor hb hI he 0 (Nat.zero_le _) rfl

set_option maxRecDepth 100000 in
set_option maxHeartbeats 4000000 in
theorem c_X0_takesLeft {X : Sc} {h : Hp} {b g : Nat} (hb : InnAt b g) (hI : In (h g)) {e d : Nat} (he : e < 6) (hd : d < 8) : Ct X yX0_takesLeft cX0_takesLeft 6 (some .boolean) 1 [.ref b, .int (nI e), .int (nI d)] h (some (.int (bI (lft (h g) e d)))) h := by
  refine ⟨rok_b _, ?_⟩
  refine g_aload_n dX0_takesLeft_0 rfl ?_
  refine g_iload_n dX0_takesLeft_1 rfl ?_
  refine g_iconst dX0_takesLeft_2 ic_0 ?_
  refine g_callV2i (c_X0_guestFact (w := 0) hb he (by decide)) mi_X0_guestFact mv_X0_guestFact ml_X0_57 dX0_takesLeft_3 hb.1 rfl (by decide) (Nat.le_of_ble_eq_true rfl) (Nat.le_of_ble_eq_true rfl) ?_
  refine g_istore_n dX0_takesLeft_6 (by decide) rfl ?_
  refine g_iload_n dX0_takesLeft_7 rfl ?_
  refine g_iconst dX0_takesLeft_8 ic_2 ?_
  refine g_irem dX0_takesLeft_9 (by decide) ?_
  refine g_if_ne 17 dX0_takesLeft_10 (by decide) (fun c10 => ?_) (fun c10 => ?_)
  · refine g_iconst dX0_takesLeft_17 ic_0 ?_
    refine g_istore dX0_takesLeft_18 (by decide) rfl ?_
    refine g_aload_n dX0_takesLeft_20 rfl ?_
    refine g_iload_n dX0_takesLeft_21 rfl ?_
    refine g_iconst dX0_takesLeft_22 ic_4 ?_
    refine g_callV2i (c_X0_dishFact (w := 4) hb hd (by decide)) mi_X0_dishFact mv_X0_dishFact ml_X0_43 dX0_takesLeft_23 hb.1 rfl (by decide) (Nat.le_of_ble_eq_true rfl) (Nat.le_of_ble_eq_true rfl) ?_
    refine g_iconst dX0_takesLeft_26 ic_2 ?_
    refine g_irem dX0_takesLeft_27 (by decide) ?_
    refine g_if_ne 35 dX0_takesLeft_28 (by decide) (fun c28 => ?_) (fun c28 => ?_)
    · refine g_iconst dX0_takesLeft_35 ic_0 ?_
      refine g_istore dX0_takesLeft_36 (by decide) rfl ?_
      refine g_aload_n dX0_takesLeft_38 rfl ?_
      refine g_iload_n dX0_takesLeft_39 rfl ?_
      refine g_iconst dX0_takesLeft_40 ic_0 ?_
      refine g_callV2i (c_X0_dishFact (w := 0) hb hd (by decide)) mi_X0_dishFact mv_X0_dishFact ml_X0_43 dX0_takesLeft_41 hb.1 rfl (by decide) (Nat.le_of_ble_eq_true rfl) (Nat.le_of_ble_eq_true rfl) ?_
      refine g_tswc (1) (1) (40) 84 dX0_takesLeft_44 (by decide) (by decide) (by decide) rfl (by decide) (fun c44 => ?_) (fun c44_0 n44_0 => ?_)
      · refine g_iload dX0_takesLeft_84 rfl ?_
        exact g_ireturn dX0_takesLeft_86 (by simp_all [lft, evn, bI]) rfl
      refine g_tswc (2) (2) (56) 100 dX0_takesLeft_44 (by decide) (by decide) (by decide) rfl (by decide) (fun c44 => ?_) (fun c44_1 n44_1 => ?_)
      · refine g_iload_n dX0_takesLeft_100 rfl ?_
        refine g_bipush dX0_takesLeft_101 bp_30 ?_
        refine g_icmp_ge 110 dX0_takesLeft_103 (by decide) (fun c103 => ?_) (fun c103 => ?_)
        · refine g_iconst dX0_takesLeft_110 ic_0 ?_
          exact g_ireturn dX0_takesLeft_111 (by simp_all [lft, evn, bI]) rfl
        · refine g_iconst dX0_takesLeft_106 ic_1 ?_
          refine g_goto 111 dX0_takesLeft_107 (by decide) ?_
          exact g_ireturn dX0_takesLeft_111 (by simp_all [lft, evn, bI]) rfl
      refine g_tswc (3) (3) (68) 112 dX0_takesLeft_44 (by decide) (by decide) (by decide) rfl (by decide) (fun c44 => ?_) (fun c44_2 n44_2 => ?_)
      · refine g_iload_n dX0_takesLeft_112 rfl ?_
        refine g_bipush dX0_takesLeft_113 bp_30 ?_
        refine g_icmp_lt 132 dX0_takesLeft_115 (by decide) (fun c115 => ?_) (fun c115 => ?_)
        · refine g_iconst dX0_takesLeft_132 ic_1 ?_
          refine g_goto 137 dX0_takesLeft_133 (by decide) ?_
          exact g_ireturn dX0_takesLeft_137 (by simp_all [lft, evn, bI]) rfl
        · refine g_aload_n dX0_takesLeft_118 rfl ?_
          refine g_iload_n dX0_takesLeft_119 rfl ?_
          refine g_aload_n dX0_takesLeft_120 rfl ?_
          refine g_iload_n dX0_takesLeft_121 rfl ?_
          refine g_iconst dX0_takesLeft_122 ic_2 ?_
          refine g_callV2i (c_X0_dishFact (w := 2) hb hd (by decide)) mi_X0_dishFact mv_X0_dishFact ml_X0_43 dX0_takesLeft_123 hb.1 rfl (by decide) (Nat.le_of_ble_eq_true rfl) (Nat.le_of_ble_eq_true rfl) ?_
          refine g_callV2i (c_X0_anotherIsFor hb hI he) mi_X0_anotherIsFor mv_X0_anotherIsFor ml_X0_60 dX0_takesLeft_126 hb.1 rfl (by decide) (Nat.le_of_ble_eq_true rfl) (Nat.le_of_ble_eq_true rfl) ?_
          refine g_if_eq 136 dX0_takesLeft_129 (by decide) (fun c129 => ?_) (fun c129 => ?_)
          · refine g_iconst dX0_takesLeft_136 ic_0 ?_
            exact g_ireturn dX0_takesLeft_137 (by simp_all [lft, evn, bI]) rfl
          · refine g_iconst dX0_takesLeft_132 ic_1 ?_
            refine g_goto 137 dX0_takesLeft_133 (by decide) ?_
            exact g_ireturn dX0_takesLeft_137 (by simp_all [lft, evn, bI]) rfl
      refine g_tswc (4) (4) (94) 138 dX0_takesLeft_44 (by decide) (by decide) (by decide) rfl (by decide) (fun c44 => ?_) (fun c44_3 n44_3 => ?_)
      · refine g_iload dX0_takesLeft_138 rfl ?_
        exact g_ireturn dX0_takesLeft_140 (by simp_all [lft, evn, bI]) rfl
      refine g_tswc (5) (5) (97) 141 dX0_takesLeft_44 (by decide) (by decide) (by decide) rfl (by decide) (fun c44 => ?_) (fun c44_4 n44_4 => ?_)
      · refine g_iconst dX0_takesLeft_141 ic_1 ?_
        exact g_ireturn dX0_takesLeft_142 (by simp_all [lft, evn, bI]) rfl
      refine g_tswc (6) (6) (43) 87 dX0_takesLeft_44 (by decide) (by decide) (by decide) rfl (by decide) (fun c44 => ?_) (fun c44_5 n44_5 => ?_)
      · refine g_iload dX0_takesLeft_87 rfl ?_
        refine g_iload dX0_takesLeft_89 rfl ?_
        refine g_icmp_ne 98 dX0_takesLeft_91 (by decide) (fun c91 => ?_) (fun c91 => ?_)
        · refine g_iconst dX0_takesLeft_98 ic_0 ?_
          exact g_ireturn dX0_takesLeft_99 (by simp_all [lft, evn, bI]) rfl
        · refine g_iconst dX0_takesLeft_94 ic_1 ?_
          refine g_goto 99 dX0_takesLeft_95 (by decide) ?_
          exact g_ireturn dX0_takesLeft_99 (by simp_all [lft, evn, bI]) rfl
      refine g_tswd 143 dX0_takesLeft_44 (by omega) (by decide) ?_
      refine g_iload_n dX0_takesLeft_143 rfl ?_
      refine g_bipush dX0_takesLeft_144 bp_50 ?_
      refine g_icmp_ge 153 dX0_takesLeft_146 (by decide) (fun c146 => ?_) (fun c146 => ?_)
      · refine g_iconst dX0_takesLeft_153 ic_0 ?_
        exact g_ireturn dX0_takesLeft_154 (by simp_all [lft, evn, bI]) rfl
      · refine g_iconst dX0_takesLeft_149 ic_1 ?_
        refine g_goto 154 dX0_takesLeft_150 (by decide) ?_
        exact g_ireturn dX0_takesLeft_154 (by simp_all [lft, evn, bI]) rfl
    · refine g_iconst dX0_takesLeft_31 ic_1 ?_
      refine g_goto 36 dX0_takesLeft_32 (by decide) ?_
      refine g_istore dX0_takesLeft_36 (by decide) rfl ?_
      refine g_aload_n dX0_takesLeft_38 rfl ?_
      refine g_iload_n dX0_takesLeft_39 rfl ?_
      refine g_iconst dX0_takesLeft_40 ic_0 ?_
      refine g_callV2i (c_X0_dishFact (w := 0) hb hd (by decide)) mi_X0_dishFact mv_X0_dishFact ml_X0_43 dX0_takesLeft_41 hb.1 rfl (by decide) (Nat.le_of_ble_eq_true rfl) (Nat.le_of_ble_eq_true rfl) ?_
      refine g_tswc (1) (1) (40) 84 dX0_takesLeft_44 (by decide) (by decide) (by decide) rfl (by decide) (fun c44 => ?_) (fun c44_0 n44_0 => ?_)
      · refine g_iload dX0_takesLeft_84 rfl ?_
        exact g_ireturn dX0_takesLeft_86 (by simp_all [lft, evn, bI]) rfl
      refine g_tswc (2) (2) (56) 100 dX0_takesLeft_44 (by decide) (by decide) (by decide) rfl (by decide) (fun c44 => ?_) (fun c44_1 n44_1 => ?_)
      · refine g_iload_n dX0_takesLeft_100 rfl ?_
        refine g_bipush dX0_takesLeft_101 bp_30 ?_
        refine g_icmp_ge 110 dX0_takesLeft_103 (by decide) (fun c103 => ?_) (fun c103 => ?_)
        · refine g_iconst dX0_takesLeft_110 ic_0 ?_
          exact g_ireturn dX0_takesLeft_111 (by simp_all [lft, evn, bI]) rfl
        · refine g_iconst dX0_takesLeft_106 ic_1 ?_
          refine g_goto 111 dX0_takesLeft_107 (by decide) ?_
          exact g_ireturn dX0_takesLeft_111 (by simp_all [lft, evn, bI]) rfl
      refine g_tswc (3) (3) (68) 112 dX0_takesLeft_44 (by decide) (by decide) (by decide) rfl (by decide) (fun c44 => ?_) (fun c44_2 n44_2 => ?_)
      · refine g_iload_n dX0_takesLeft_112 rfl ?_
        refine g_bipush dX0_takesLeft_113 bp_30 ?_
        refine g_icmp_lt 132 dX0_takesLeft_115 (by decide) (fun c115 => ?_) (fun c115 => ?_)
        · refine g_iconst dX0_takesLeft_132 ic_1 ?_
          refine g_goto 137 dX0_takesLeft_133 (by decide) ?_
          exact g_ireturn dX0_takesLeft_137 (by simp_all [lft, evn, bI]) rfl
        · refine g_aload_n dX0_takesLeft_118 rfl ?_
          refine g_iload_n dX0_takesLeft_119 rfl ?_
          refine g_aload_n dX0_takesLeft_120 rfl ?_
          refine g_iload_n dX0_takesLeft_121 rfl ?_
          refine g_iconst dX0_takesLeft_122 ic_2 ?_
          refine g_callV2i (c_X0_dishFact (w := 2) hb hd (by decide)) mi_X0_dishFact mv_X0_dishFact ml_X0_43 dX0_takesLeft_123 hb.1 rfl (by decide) (Nat.le_of_ble_eq_true rfl) (Nat.le_of_ble_eq_true rfl) ?_
          refine g_callV2i (c_X0_anotherIsFor hb hI he) mi_X0_anotherIsFor mv_X0_anotherIsFor ml_X0_60 dX0_takesLeft_126 hb.1 rfl (by decide) (Nat.le_of_ble_eq_true rfl) (Nat.le_of_ble_eq_true rfl) ?_
          refine g_if_eq 136 dX0_takesLeft_129 (by decide) (fun c129 => ?_) (fun c129 => ?_)
          · refine g_iconst dX0_takesLeft_136 ic_0 ?_
            exact g_ireturn dX0_takesLeft_137 (by simp_all [lft, evn, bI]) rfl
          · refine g_iconst dX0_takesLeft_132 ic_1 ?_
            refine g_goto 137 dX0_takesLeft_133 (by decide) ?_
            exact g_ireturn dX0_takesLeft_137 (by simp_all [lft, evn, bI]) rfl
      refine g_tswc (4) (4) (94) 138 dX0_takesLeft_44 (by decide) (by decide) (by decide) rfl (by decide) (fun c44 => ?_) (fun c44_3 n44_3 => ?_)
      · refine g_iload dX0_takesLeft_138 rfl ?_
        exact g_ireturn dX0_takesLeft_140 (by simp_all [lft, evn, bI]) rfl
      refine g_tswc (5) (5) (97) 141 dX0_takesLeft_44 (by decide) (by decide) (by decide) rfl (by decide) (fun c44 => ?_) (fun c44_4 n44_4 => ?_)
      · refine g_iconst dX0_takesLeft_141 ic_1 ?_
        exact g_ireturn dX0_takesLeft_142 (by simp_all [lft, evn, bI]) rfl
      refine g_tswc (6) (6) (43) 87 dX0_takesLeft_44 (by decide) (by decide) (by decide) rfl (by decide) (fun c44 => ?_) (fun c44_5 n44_5 => ?_)
      · refine g_iload dX0_takesLeft_87 rfl ?_
        refine g_iload dX0_takesLeft_89 rfl ?_
        refine g_icmp_ne 98 dX0_takesLeft_91 (by decide) (fun c91 => ?_) (fun c91 => ?_)
        · refine g_iconst dX0_takesLeft_98 ic_0 ?_
          exact g_ireturn dX0_takesLeft_99 (by simp_all [lft, evn, bI]) rfl
        · refine g_iconst dX0_takesLeft_94 ic_1 ?_
          refine g_goto 99 dX0_takesLeft_95 (by decide) ?_
          exact g_ireturn dX0_takesLeft_99 (by simp_all [lft, evn, bI]) rfl
      refine g_tswd 143 dX0_takesLeft_44 (by omega) (by decide) ?_
      refine g_iload_n dX0_takesLeft_143 rfl ?_
      refine g_bipush dX0_takesLeft_144 bp_50 ?_
      refine g_icmp_ge 153 dX0_takesLeft_146 (by decide) (fun c146 => ?_) (fun c146 => ?_)
      · refine g_iconst dX0_takesLeft_153 ic_0 ?_
        exact g_ireturn dX0_takesLeft_154 (by simp_all [lft, evn, bI]) rfl
      · refine g_iconst dX0_takesLeft_149 ic_1 ?_
        refine g_goto 154 dX0_takesLeft_150 (by decide) ?_
        exact g_ireturn dX0_takesLeft_154 (by simp_all [lft, evn, bI]) rfl
  · refine g_iconst dX0_takesLeft_13 ic_1 ?_
    refine g_goto 18 dX0_takesLeft_14 (by decide) ?_
    refine g_istore dX0_takesLeft_18 (by decide) rfl ?_
    refine g_aload_n dX0_takesLeft_20 rfl ?_
    refine g_iload_n dX0_takesLeft_21 rfl ?_
    refine g_iconst dX0_takesLeft_22 ic_4 ?_
    refine g_callV2i (c_X0_dishFact (w := 4) hb hd (by decide)) mi_X0_dishFact mv_X0_dishFact ml_X0_43 dX0_takesLeft_23 hb.1 rfl (by decide) (Nat.le_of_ble_eq_true rfl) (Nat.le_of_ble_eq_true rfl) ?_
    refine g_iconst dX0_takesLeft_26 ic_2 ?_
    refine g_irem dX0_takesLeft_27 (by decide) ?_
    refine g_if_ne 35 dX0_takesLeft_28 (by decide) (fun c28 => ?_) (fun c28 => ?_)
    · refine g_iconst dX0_takesLeft_35 ic_0 ?_
      refine g_istore dX0_takesLeft_36 (by decide) rfl ?_
      refine g_aload_n dX0_takesLeft_38 rfl ?_
      refine g_iload_n dX0_takesLeft_39 rfl ?_
      refine g_iconst dX0_takesLeft_40 ic_0 ?_
      refine g_callV2i (c_X0_dishFact (w := 0) hb hd (by decide)) mi_X0_dishFact mv_X0_dishFact ml_X0_43 dX0_takesLeft_41 hb.1 rfl (by decide) (Nat.le_of_ble_eq_true rfl) (Nat.le_of_ble_eq_true rfl) ?_
      refine g_tswc (1) (1) (40) 84 dX0_takesLeft_44 (by decide) (by decide) (by decide) rfl (by decide) (fun c44 => ?_) (fun c44_0 n44_0 => ?_)
      · refine g_iload dX0_takesLeft_84 rfl ?_
        exact g_ireturn dX0_takesLeft_86 (by simp_all [lft, evn, bI]) rfl
      refine g_tswc (2) (2) (56) 100 dX0_takesLeft_44 (by decide) (by decide) (by decide) rfl (by decide) (fun c44 => ?_) (fun c44_1 n44_1 => ?_)
      · refine g_iload_n dX0_takesLeft_100 rfl ?_
        refine g_bipush dX0_takesLeft_101 bp_30 ?_
        refine g_icmp_ge 110 dX0_takesLeft_103 (by decide) (fun c103 => ?_) (fun c103 => ?_)
        · refine g_iconst dX0_takesLeft_110 ic_0 ?_
          exact g_ireturn dX0_takesLeft_111 (by simp_all [lft, evn, bI]) rfl
        · refine g_iconst dX0_takesLeft_106 ic_1 ?_
          refine g_goto 111 dX0_takesLeft_107 (by decide) ?_
          exact g_ireturn dX0_takesLeft_111 (by simp_all [lft, evn, bI]) rfl
      refine g_tswc (3) (3) (68) 112 dX0_takesLeft_44 (by decide) (by decide) (by decide) rfl (by decide) (fun c44 => ?_) (fun c44_2 n44_2 => ?_)
      · refine g_iload_n dX0_takesLeft_112 rfl ?_
        refine g_bipush dX0_takesLeft_113 bp_30 ?_
        refine g_icmp_lt 132 dX0_takesLeft_115 (by decide) (fun c115 => ?_) (fun c115 => ?_)
        · refine g_iconst dX0_takesLeft_132 ic_1 ?_
          refine g_goto 137 dX0_takesLeft_133 (by decide) ?_
          exact g_ireturn dX0_takesLeft_137 (by simp_all [lft, evn, bI]) rfl
        · refine g_aload_n dX0_takesLeft_118 rfl ?_
          refine g_iload_n dX0_takesLeft_119 rfl ?_
          refine g_aload_n dX0_takesLeft_120 rfl ?_
          refine g_iload_n dX0_takesLeft_121 rfl ?_
          refine g_iconst dX0_takesLeft_122 ic_2 ?_
          refine g_callV2i (c_X0_dishFact (w := 2) hb hd (by decide)) mi_X0_dishFact mv_X0_dishFact ml_X0_43 dX0_takesLeft_123 hb.1 rfl (by decide) (Nat.le_of_ble_eq_true rfl) (Nat.le_of_ble_eq_true rfl) ?_
          refine g_callV2i (c_X0_anotherIsFor hb hI he) mi_X0_anotherIsFor mv_X0_anotherIsFor ml_X0_60 dX0_takesLeft_126 hb.1 rfl (by decide) (Nat.le_of_ble_eq_true rfl) (Nat.le_of_ble_eq_true rfl) ?_
          refine g_if_eq 136 dX0_takesLeft_129 (by decide) (fun c129 => ?_) (fun c129 => ?_)
          · refine g_iconst dX0_takesLeft_136 ic_0 ?_
            exact g_ireturn dX0_takesLeft_137 (by simp_all [lft, evn, bI]) rfl
          · refine g_iconst dX0_takesLeft_132 ic_1 ?_
            refine g_goto 137 dX0_takesLeft_133 (by decide) ?_
            exact g_ireturn dX0_takesLeft_137 (by simp_all [lft, evn, bI]) rfl
      refine g_tswc (4) (4) (94) 138 dX0_takesLeft_44 (by decide) (by decide) (by decide) rfl (by decide) (fun c44 => ?_) (fun c44_3 n44_3 => ?_)
      · refine g_iload dX0_takesLeft_138 rfl ?_
        exact g_ireturn dX0_takesLeft_140 (by simp_all [lft, evn, bI]) rfl
      refine g_tswc (5) (5) (97) 141 dX0_takesLeft_44 (by decide) (by decide) (by decide) rfl (by decide) (fun c44 => ?_) (fun c44_4 n44_4 => ?_)
      · refine g_iconst dX0_takesLeft_141 ic_1 ?_
        exact g_ireturn dX0_takesLeft_142 (by simp_all [lft, evn, bI]) rfl
      refine g_tswc (6) (6) (43) 87 dX0_takesLeft_44 (by decide) (by decide) (by decide) rfl (by decide) (fun c44 => ?_) (fun c44_5 n44_5 => ?_)
      · refine g_iload dX0_takesLeft_87 rfl ?_
        refine g_iload dX0_takesLeft_89 rfl ?_
        refine g_icmp_ne 98 dX0_takesLeft_91 (by decide) (fun c91 => ?_) (fun c91 => ?_)
        · refine g_iconst dX0_takesLeft_98 ic_0 ?_
          exact g_ireturn dX0_takesLeft_99 (by simp_all [lft, evn, bI]) rfl
        · refine g_iconst dX0_takesLeft_94 ic_1 ?_
          refine g_goto 99 dX0_takesLeft_95 (by decide) ?_
          exact g_ireturn dX0_takesLeft_99 (by simp_all [lft, evn, bI]) rfl
      refine g_tswd 143 dX0_takesLeft_44 (by omega) (by decide) ?_
      refine g_iload_n dX0_takesLeft_143 rfl ?_
      refine g_bipush dX0_takesLeft_144 bp_50 ?_
      refine g_icmp_ge 153 dX0_takesLeft_146 (by decide) (fun c146 => ?_) (fun c146 => ?_)
      · refine g_iconst dX0_takesLeft_153 ic_0 ?_
        exact g_ireturn dX0_takesLeft_154 (by simp_all [lft, evn, bI]) rfl
      · refine g_iconst dX0_takesLeft_149 ic_1 ?_
        refine g_goto 154 dX0_takesLeft_150 (by decide) ?_
        exact g_ireturn dX0_takesLeft_154 (by simp_all [lft, evn, bI]) rfl
    · refine g_iconst dX0_takesLeft_31 ic_1 ?_
      refine g_goto 36 dX0_takesLeft_32 (by decide) ?_
      refine g_istore dX0_takesLeft_36 (by decide) rfl ?_
      refine g_aload_n dX0_takesLeft_38 rfl ?_
      refine g_iload_n dX0_takesLeft_39 rfl ?_
      refine g_iconst dX0_takesLeft_40 ic_0 ?_
      refine g_callV2i (c_X0_dishFact (w := 0) hb hd (by decide)) mi_X0_dishFact mv_X0_dishFact ml_X0_43 dX0_takesLeft_41 hb.1 rfl (by decide) (Nat.le_of_ble_eq_true rfl) (Nat.le_of_ble_eq_true rfl) ?_
      refine g_tswc (1) (1) (40) 84 dX0_takesLeft_44 (by decide) (by decide) (by decide) rfl (by decide) (fun c44 => ?_) (fun c44_0 n44_0 => ?_)
      · refine g_iload dX0_takesLeft_84 rfl ?_
        exact g_ireturn dX0_takesLeft_86 (by simp_all [lft, evn, bI]) rfl
      refine g_tswc (2) (2) (56) 100 dX0_takesLeft_44 (by decide) (by decide) (by decide) rfl (by decide) (fun c44 => ?_) (fun c44_1 n44_1 => ?_)
      · refine g_iload_n dX0_takesLeft_100 rfl ?_
        refine g_bipush dX0_takesLeft_101 bp_30 ?_
        refine g_icmp_ge 110 dX0_takesLeft_103 (by decide) (fun c103 => ?_) (fun c103 => ?_)
        · refine g_iconst dX0_takesLeft_110 ic_0 ?_
          exact g_ireturn dX0_takesLeft_111 (by simp_all [lft, evn, bI]) rfl
        · refine g_iconst dX0_takesLeft_106 ic_1 ?_
          refine g_goto 111 dX0_takesLeft_107 (by decide) ?_
          exact g_ireturn dX0_takesLeft_111 (by simp_all [lft, evn, bI]) rfl
      refine g_tswc (3) (3) (68) 112 dX0_takesLeft_44 (by decide) (by decide) (by decide) rfl (by decide) (fun c44 => ?_) (fun c44_2 n44_2 => ?_)
      · refine g_iload_n dX0_takesLeft_112 rfl ?_
        refine g_bipush dX0_takesLeft_113 bp_30 ?_
        refine g_icmp_lt 132 dX0_takesLeft_115 (by decide) (fun c115 => ?_) (fun c115 => ?_)
        · refine g_iconst dX0_takesLeft_132 ic_1 ?_
          refine g_goto 137 dX0_takesLeft_133 (by decide) ?_
          exact g_ireturn dX0_takesLeft_137 (by simp_all [lft, evn, bI]) rfl
        · refine g_aload_n dX0_takesLeft_118 rfl ?_
          refine g_iload_n dX0_takesLeft_119 rfl ?_
          refine g_aload_n dX0_takesLeft_120 rfl ?_
          refine g_iload_n dX0_takesLeft_121 rfl ?_
          refine g_iconst dX0_takesLeft_122 ic_2 ?_
          refine g_callV2i (c_X0_dishFact (w := 2) hb hd (by decide)) mi_X0_dishFact mv_X0_dishFact ml_X0_43 dX0_takesLeft_123 hb.1 rfl (by decide) (Nat.le_of_ble_eq_true rfl) (Nat.le_of_ble_eq_true rfl) ?_
          refine g_callV2i (c_X0_anotherIsFor hb hI he) mi_X0_anotherIsFor mv_X0_anotherIsFor ml_X0_60 dX0_takesLeft_126 hb.1 rfl (by decide) (Nat.le_of_ble_eq_true rfl) (Nat.le_of_ble_eq_true rfl) ?_
          refine g_if_eq 136 dX0_takesLeft_129 (by decide) (fun c129 => ?_) (fun c129 => ?_)
          · refine g_iconst dX0_takesLeft_136 ic_0 ?_
            exact g_ireturn dX0_takesLeft_137 (by simp_all [lft, evn, bI]) rfl
          · refine g_iconst dX0_takesLeft_132 ic_1 ?_
            refine g_goto 137 dX0_takesLeft_133 (by decide) ?_
            exact g_ireturn dX0_takesLeft_137 (by simp_all [lft, evn, bI]) rfl
      refine g_tswc (4) (4) (94) 138 dX0_takesLeft_44 (by decide) (by decide) (by decide) rfl (by decide) (fun c44 => ?_) (fun c44_3 n44_3 => ?_)
      · refine g_iload dX0_takesLeft_138 rfl ?_
        exact g_ireturn dX0_takesLeft_140 (by simp_all [lft, evn, bI]) rfl
      refine g_tswc (5) (5) (97) 141 dX0_takesLeft_44 (by decide) (by decide) (by decide) rfl (by decide) (fun c44 => ?_) (fun c44_4 n44_4 => ?_)
      · refine g_iconst dX0_takesLeft_141 ic_1 ?_
        exact g_ireturn dX0_takesLeft_142 (by simp_all [lft, evn, bI]) rfl
      refine g_tswc (6) (6) (43) 87 dX0_takesLeft_44 (by decide) (by decide) (by decide) rfl (by decide) (fun c44 => ?_) (fun c44_5 n44_5 => ?_)
      · refine g_iload dX0_takesLeft_87 rfl ?_
        refine g_iload dX0_takesLeft_89 rfl ?_
        refine g_icmp_ne 98 dX0_takesLeft_91 (by decide) (fun c91 => ?_) (fun c91 => ?_)
        · refine g_iconst dX0_takesLeft_98 ic_0 ?_
          exact g_ireturn dX0_takesLeft_99 (by simp_all [lft, evn, bI]) rfl
        · refine g_iconst dX0_takesLeft_94 ic_1 ?_
          refine g_goto 99 dX0_takesLeft_95 (by decide) ?_
          exact g_ireturn dX0_takesLeft_99 (by simp_all [lft, evn, bI]) rfl
      refine g_tswd 143 dX0_takesLeft_44 (by omega) (by decide) ?_
      refine g_iload_n dX0_takesLeft_143 rfl ?_
      refine g_bipush dX0_takesLeft_144 bp_50 ?_
      refine g_icmp_ge 153 dX0_takesLeft_146 (by decide) (fun c146 => ?_) (fun c146 => ?_)
      · refine g_iconst dX0_takesLeft_153 ic_0 ?_
        exact g_ireturn dX0_takesLeft_154 (by simp_all [lft, evn, bI]) rfl
      · refine g_iconst dX0_takesLeft_149 ic_1 ?_
        refine g_goto 154 dX0_takesLeft_150 (by decide) ?_
        exact g_ireturn dX0_takesLeft_154 (by simp_all [lft, evn, bI]) rfl

set_option maxRecDepth 100000 in
set_option maxHeartbeats 4000000 in
theorem c_X0_bendOf {X : Sc} {h : Hp} {k : Int32} {l : Bool} : Ct X yX0_bendOf cX0_bendOf 3 (some .int) 0 [.int k, .int (bI l)] h (some (.int (bnd k l))) h := by
  refine ⟨rfl, ?_⟩
  refine g_iload_n dX0_bendOf_0 rfl ?_
  refine g_if_eq 9 dX0_bendOf_1 (by decide) (fun c1 => ?_) (fun c1 => ?_)
  · refine g_iconst dX0_bendOf_9 ic_5 ?_
    refine g_istore_n dX0_bendOf_10 (by decide) rfl ?_
    refine g_iload_n dX0_bendOf_11 rfl ?_
    refine g_tswc (1) (1) (40) 52 dX0_bendOf_12 (by decide) (by decide) (by decide) rfl (by decide) (fun c12 => ?_) (fun c12_0 n12_0 => ?_)
    · refine g_iload_n dX0_bendOf_52 rfl ?_
      refine g_iconst dX0_bendOf_53 ic_1 ?_
      refine g_isub dX0_bendOf_54 ?_
      exact g_ireturn dX0_bendOf_55 (by simp_all [bnd, bI]) rfl
    refine g_tswc (2) (2) (46) 58 dX0_bendOf_12 (by decide) (by decide) (by decide) rfl (by decide) (fun c12 => ?_) (fun c12_1 n12_1 => ?_)
    · refine g_iconst dX0_bendOf_58 ic_2 ?_
      refine g_iload_n dX0_bendOf_59 rfl ?_
      refine g_imul dX0_bendOf_60 ?_
      exact g_ireturn dX0_bendOf_61 (by simp_all [bnd, bI]) rfl
    refine g_tswc (3) (3) (50) 62 dX0_bendOf_12 (by decide) (by decide) (by decide) rfl (by decide) (fun c12 => ?_) (fun c12_2 n12_2 => ?_)
    · refine g_iconst dX0_bendOf_62 ic_2 ?_
      refine g_iload_n dX0_bendOf_63 rfl ?_
      refine g_imul dX0_bendOf_64 ?_
      refine g_iconst dX0_bendOf_65 ic_3 ?_
      refine g_iadd dX0_bendOf_66 ?_
      exact g_ireturn dX0_bendOf_67 (by simp_all [bnd, bI]) rfl
    refine g_tswc (4) (4) (56) 68 dX0_bendOf_12 (by decide) (by decide) (by decide) rfl (by decide) (fun c12 => ?_) (fun c12_3 n12_3 => ?_)
    · refine g_bipush dX0_bendOf_68 bp_m2 ?_
      refine g_iload_n dX0_bendOf_70 rfl ?_
      refine g_imul dX0_bendOf_71 ?_
      refine g_iconst dX0_bendOf_72 ic_3 ?_
      refine g_iadd dX0_bendOf_73 ?_
      exact g_ireturn dX0_bendOf_74 (by simp_all [bnd, bI]) rfl
    refine g_tswc (5) (5) (63) 75 dX0_bendOf_12 (by decide) (by decide) (by decide) rfl (by decide) (fun c12 => ?_) (fun c12_4 n12_4 => ?_)
    · refine g_iconst dX0_bendOf_75 ic_0 ?_
      exact g_ireturn dX0_bendOf_76 (by simp_all [bnd, bI]) rfl
    refine g_tswc (6) (6) (44) 56 dX0_bendOf_12 (by decide) (by decide) (by decide) rfl (by decide) (fun c12 => ?_) (fun c12_5 n12_5 => ?_)
    · refine g_iconst dX0_bendOf_56 ic_1 ?_
      exact g_ireturn dX0_bendOf_57 (by simp_all [bnd, bI]) rfl
    refine g_tswd 77 dX0_bendOf_12 (by omega) (by decide) ?_
    refine g_iload_n dX0_bendOf_77 rfl ?_
    exact g_ireturn dX0_bendOf_78 (by simp_all [bnd, bI]) rfl
  · refine g_bipush dX0_bendOf_4 bp_m5 ?_
    refine g_goto 10 dX0_bendOf_6 (by decide) ?_
    refine g_istore_n dX0_bendOf_10 (by decide) rfl ?_
    refine g_iload_n dX0_bendOf_11 rfl ?_
    refine g_tswc (1) (1) (40) 52 dX0_bendOf_12 (by decide) (by decide) (by decide) rfl (by decide) (fun c12 => ?_) (fun c12_0 n12_0 => ?_)
    · refine g_iload_n dX0_bendOf_52 rfl ?_
      refine g_iconst dX0_bendOf_53 ic_1 ?_
      refine g_isub dX0_bendOf_54 ?_
      exact g_ireturn dX0_bendOf_55 (by simp_all [bnd, bI]) rfl
    refine g_tswc (2) (2) (46) 58 dX0_bendOf_12 (by decide) (by decide) (by decide) rfl (by decide) (fun c12 => ?_) (fun c12_1 n12_1 => ?_)
    · refine g_iconst dX0_bendOf_58 ic_2 ?_
      refine g_iload_n dX0_bendOf_59 rfl ?_
      refine g_imul dX0_bendOf_60 ?_
      exact g_ireturn dX0_bendOf_61 (by simp_all [bnd, bI]) rfl
    refine g_tswc (3) (3) (50) 62 dX0_bendOf_12 (by decide) (by decide) (by decide) rfl (by decide) (fun c12 => ?_) (fun c12_2 n12_2 => ?_)
    · refine g_iconst dX0_bendOf_62 ic_2 ?_
      refine g_iload_n dX0_bendOf_63 rfl ?_
      refine g_imul dX0_bendOf_64 ?_
      refine g_iconst dX0_bendOf_65 ic_3 ?_
      refine g_iadd dX0_bendOf_66 ?_
      exact g_ireturn dX0_bendOf_67 (by simp_all [bnd, bI]) rfl
    refine g_tswc (4) (4) (56) 68 dX0_bendOf_12 (by decide) (by decide) (by decide) rfl (by decide) (fun c12 => ?_) (fun c12_3 n12_3 => ?_)
    · refine g_bipush dX0_bendOf_68 bp_m2 ?_
      refine g_iload_n dX0_bendOf_70 rfl ?_
      refine g_imul dX0_bendOf_71 ?_
      refine g_iconst dX0_bendOf_72 ic_3 ?_
      refine g_iadd dX0_bendOf_73 ?_
      exact g_ireturn dX0_bendOf_74 (by simp_all [bnd, bI]) rfl
    refine g_tswc (5) (5) (63) 75 dX0_bendOf_12 (by decide) (by decide) (by decide) rfl (by decide) (fun c12 => ?_) (fun c12_4 n12_4 => ?_)
    · refine g_iconst dX0_bendOf_75 ic_0 ?_
      exact g_ireturn dX0_bendOf_76 (by simp_all [bnd, bI]) rfl
    refine g_tswc (6) (6) (44) 56 dX0_bendOf_12 (by decide) (by decide) (by decide) rfl (by decide) (fun c12 => ?_) (fun c12_5 n12_5 => ?_)
    · refine g_iconst dX0_bendOf_56 ic_1 ?_
      exact g_ireturn dX0_bendOf_57 (by simp_all [bnd, bI]) rfl
    refine g_tswd 77 dX0_bendOf_12 (by omega) (by decide) ?_
    refine g_iload_n dX0_bendOf_77 rfl ?_
    exact g_ireturn dX0_bendOf_78 (by simp_all [bnd, bI]) rfl

theorem In.price {m : Rw} (h : In m) {d : Nat} (hd : d < 8) : (if dF m d 3 - 2 < 0 then 0 else dF m d 3 - 2) = if 2 < dF m d 3 then dF m d 3 - 2 else (0 : Int32) := by
  obtain ⟨x, hx, e⟩ := h.d hd (w := 3) (by decide)
  rw [e]
  have hx : x ≤ 99 := hx
  have : ∀ x, x ≤ 99 → (if nI x - 2 < 0 then 0 else nI x - 2) = if 2 < nI x then nI x - 2 else (0 : Int32) := by decide +kernel
  exact this x hx
set_option maxRecDepth 100000 in
set_option maxHeartbeats 4000000 in
theorem c_X0_costOf {X : Sc} {h : Hp} {b g : Nat} (hb : InnAt b g) (hI : In (h g)) {e d : Nat} (he : e < 6) (hd : d < 8) {l : Bool} : Ct X yX0_costOf cX0_costOf 6 (some .int) 1 [.ref b, .int (nI e), .int (nI d), .int (bI l)] h (some (.int (cst (h g) e d l))) h := by
  refine ⟨rfl, ?_⟩
  refine g_aload_n dX0_costOf_0 rfl ?_
  refine g_iload_n dX0_costOf_1 rfl ?_
  refine g_iconst dX0_costOf_2 ic_3 ?_
  refine g_callV2i (c_X0_dishFact (w := 3) hb hd (by decide)) mi_X0_dishFact mv_X0_dishFact ml_X0_43 dX0_costOf_3 hb.1 rfl (by decide) (Nat.le_of_ble_eq_true rfl) (Nat.le_of_ble_eq_true rfl) ?_
  refine g_istore dX0_costOf_6 (by decide) rfl ?_
  refine g_iload dX0_costOf_8 rfl ?_
  refine g_aload_n dX0_costOf_10 rfl ?_
  refine g_iload_n dX0_costOf_11 rfl ?_
  refine g_iconst dX0_costOf_12 ic_0 ?_
  refine g_callV2i (c_X0_guestFact (w := 0) hb he (by decide)) mi_X0_guestFact mv_X0_guestFact ml_X0_57 dX0_costOf_13 hb.1 rfl (by decide) (Nat.le_of_ble_eq_true rfl) (Nat.le_of_ble_eq_true rfl) ?_
  refine g_bipush dX0_costOf_16 bp_10 ?_
  refine g_idiv dX0_costOf_18 (by decide) ?_
  refine g_iadd dX0_costOf_19 ?_
  refine g_istore dX0_costOf_20 (by decide) rfl ?_
  refine g_aload_n dX0_costOf_22 rfl ?_
  refine g_iload_n dX0_costOf_23 rfl ?_
  refine g_iconst dX0_costOf_24 ic_0 ?_
  refine g_callV2i (c_X0_dishFact (w := 0) hb hd (by decide)) mi_X0_dishFact mv_X0_dishFact ml_X0_43 dX0_costOf_25 hb.1 rfl (by decide) (Nat.le_of_ble_eq_true rfl) (Nat.le_of_ble_eq_true rfl) ?_
  refine g_tswc (1) (1) (40) 68 dX0_costOf_28 (by decide) (by decide) (by decide) rfl (by decide) (fun c28 => ?_) (fun c28_0 n28_0 => ?_)
  · refine g_iload dX0_costOf_68 rfl ?_
    refine g_iconst dX0_costOf_70 ic_2 ?_
    refine g_isub dX0_costOf_71 ?_
    refine g_iconst dX0_costOf_72 ic_0 ?_
    refine g_max dX0_costOf_73 ml_X0_64 mm_maxS mm_I mm_maxC (by decide) (Nat.le_of_ble_eq_true rfl) ?_
    exact g_ireturn dX0_costOf_76 (by rw [hI.price hd]; simp_all [cst]) rfl
  refine g_tswc (2) (2) (51) 79 dX0_costOf_28 (by decide) (by decide) (by decide) rfl (by decide) (fun c28 => ?_) (fun c28_1 n28_1 => ?_)
  · refine g_iload dX0_costOf_79 rfl ?_
    exact g_ireturn dX0_costOf_81 (by simp_all [cst, bI]) rfl
  refine g_tswc (3) (3) (54) 82 dX0_costOf_28 (by decide) (by decide) (by decide) rfl (by decide) (fun c28 => ?_) (fun c28_2 n28_2 => ?_)
  · refine g_iconst dX0_costOf_82 ic_2 ?_
    refine g_iload dX0_costOf_83 rfl ?_
    refine g_imul dX0_costOf_85 ?_
    exact g_ireturn dX0_costOf_86 (by simp_all [cst, bI]) rfl
  refine g_tswc (4) (4) (59) 87 dX0_costOf_28 (by decide) (by decide) (by decide) rfl (by decide) (fun c28 => ?_) (fun c28_3 n28_3 => ?_)
  · refine g_iload_n dX0_costOf_87 rfl ?_
    refine g_if_eq 98 dX0_costOf_88 (by decide) (fun c88 => ?_) (fun c88 => ?_)
    · refine g_iload dX0_costOf_98 rfl ?_
      exact g_ireturn dX0_costOf_100 (by simp_all [cst, bI]) rfl
    · refine g_iconst dX0_costOf_91 ic_2 ?_
      refine g_iload dX0_costOf_92 rfl ?_
      refine g_imul dX0_costOf_94 ?_
      refine g_goto 100 dX0_costOf_95 (by decide) ?_
      exact g_ireturn dX0_costOf_100 (by simp_all [cst, bI]) rfl
  refine g_tswc (5) (5) (73) 101 dX0_costOf_28 (by decide) (by decide) (by decide) rfl (by decide) (fun c28 => ?_) (fun c28_4 n28_4 => ?_)
  · refine g_iload dX0_costOf_101 rfl ?_
    exact g_ireturn dX0_costOf_103 (by simp_all [cst, bI]) rfl
  refine g_tswc (6) (6) (49) 77 dX0_costOf_28 (by decide) (by decide) (by decide) rfl (by decide) (fun c28 => ?_) (fun c28_5 n28_5 => ?_)
  · refine g_iconst dX0_costOf_77 ic_1 ?_
    exact g_ireturn dX0_costOf_78 (by simp_all [cst, bI]) rfl
  refine g_tswd 101 dX0_costOf_28 (by omega) (by decide) ?_
  refine g_iload dX0_costOf_101 rfl ?_
  exact g_ireturn dX0_costOf_103 (by simp_all [cst, bI]) rfl

set_option maxRecDepth 100000 in
set_option maxHeartbeats 4000000 in
theorem c_X0_townOf {X : Sc} {h : Hp} {b g : Nat} (hb : InnAt b g) {d : Nat} (hd : d < 8) {l : Bool} : Ct X yX0_townOf cX0_townOf 3 (some .int) 1 [.ref b, .int (nI d), .int (bI l)] h (some (.int (twn (h g) d l))) h := by
  refine ⟨rfl, ?_⟩
  refine g_aload_n dX0_townOf_0 rfl ?_
  refine g_iload_n dX0_townOf_1 rfl ?_
  refine g_iload_n dX0_townOf_2 rfl ?_
  refine g_if_eq 10 dX0_townOf_3 (by decide) (fun c3 => ?_) (fun c3 => ?_)
  · have el : l = false := by cases l <;> simp_all [bI]
    subst el
    refine g_iconst dX0_townOf_10 ic_2 ?_
    skip
    first
    | refine g_callV2i (c_X0_dishFact (w := 1) hb hd (by decide)) mi_X0_dishFact mv_X0_dishFact ml_X0_43 dX0_townOf_11 hb.1 rfl (by decide) (Nat.le_of_ble_eq_true rfl) (Nat.le_of_ble_eq_true rfl) ?_
    | refine g_callV2i (c_X0_dishFact (w := 2) hb hd (by decide)) mi_X0_dishFact mv_X0_dishFact ml_X0_43 dX0_townOf_11 hb.1 rfl (by decide) (Nat.le_of_ble_eq_true rfl) (Nat.le_of_ble_eq_true rfl) ?_
    exact g_ireturn dX0_townOf_14 rfl rfl
  · have el : l = true := by cases l <;> simp_all [bI]
    subst el
    refine g_iconst dX0_townOf_6 ic_1 ?_
    refine g_goto 11 dX0_townOf_7 (by decide) ?_
    skip
    first
    | refine g_callV2i (c_X0_dishFact (w := 1) hb hd (by decide)) mi_X0_dishFact mv_X0_dishFact ml_X0_43 dX0_townOf_11 hb.1 rfl (by decide) (Nat.le_of_ble_eq_true rfl) (Nat.le_of_ble_eq_true rfl) ?_
    | refine g_callV2i (c_X0_dishFact (w := 2) hb hd (by decide)) mi_X0_dishFact mv_X0_dishFact ml_X0_43 dX0_townOf_11 hb.1 rfl (by decide) (Nat.le_of_ble_eq_true rfl) (Nat.le_of_ble_eq_true rfl) ?_
    exact g_ireturn dX0_townOf_14 rfl rfl

theorem mx_hld (x : Int32) : (if (0 : Int32) < (if x < 99 then x else 99) then (if x < 99 then x else 99) else 0) = hld x 0 99 := by
  unfold hld
  by_cases h1 : x < 0
  · rw [if_pos h1]
    rw [if_pos (Int32.lt_trans h1 (by decide)), if_neg (Int32.not_lt.mpr (Int32.le_of_lt h1))]
  · rw [if_neg h1]
    by_cases h2 : x < 99
    · rw [if_pos h2, if_neg (Int32.not_lt.mpr (Int32.le_of_lt h2))]
      by_cases h3 : (0 : Int32) < x
      · rw [if_pos h3]
      · rw [if_neg h3]
        exact Int32.le_antisymm (Int32.not_lt.mp h1) (Int32.not_lt.mp h3)
    · rw [if_neg h2, if_pos (by decide)]
      by_cases h3 : (99 : Int32) < x
      · rw [if_pos h3]
      · rw [if_neg h3]
        exact Int32.le_antisymm (Int32.not_lt.mp h2) (Int32.not_lt.mp h3)
/-- what grew stays within, if it was not below 0 -/
theorem mn_hld {x t : Int32} (h : ¬ x < 0) : (if x < t then x else t) = hld x 0 t := by
  unfold hld
  rw [if_neg h]
  by_cases h2 : x < t
  · rw [if_pos h2, if_neg (Int32.not_lt.mpr (Int32.le_of_lt h2))]
  · rw [if_neg h2]
    by_cases h3 : t < x
    · rw [if_pos h3]
    · rw [if_neg h3]
      exact Int32.le_antisymm (Int32.not_lt.mp h2) (Int32.not_lt.mp h3)
set_option maxRecDepth 100000 in
set_option maxHeartbeats 4000000 in
theorem c_X0_bendGuest {X : Sc} {h : Hp} {b g : Nat} (hb : InnAt b g) {e : Nat} (he : e < 6) {x : Int32} : Ct X yX0_bendGuest cX0_bendGuest 4 none 1 [.ref b, .int (nI e), .int x] h none (setg h g (pG (h g) e 0 (hld (gF (h g) e 0 + x) 0 99))) := by
  refine ⟨trivial, ?_⟩
  refine g_aload_n dX0_bendGuest_0 rfl ?_
  refine g_iload_n dX0_bendGuest_1 rfl ?_
  refine g_iconst dX0_bendGuest_2 ic_0 ?_
  refine g_callV2i (c_X0_guestFact (w := 0) hb he (by decide)) mi_X0_guestFact mv_X0_guestFact ml_X0_57 dX0_bendGuest_3 hb.1 rfl (by decide) (Nat.le_of_ble_eq_true rfl) (Nat.le_of_ble_eq_true rfl) ?_
  refine g_iload_n dX0_bendGuest_6 rfl ?_
  refine g_iadd dX0_bendGuest_7 ?_
  refine g_istore_n dX0_bendGuest_8 (by decide) rfl ?_
  refine g_aload_n dX0_bendGuest_9 rfl ?_
  refine g_iload_n dX0_bendGuest_10 rfl ?_
  refine g_iconst dX0_bendGuest_11 ic_0 ?_
  refine g_iconst dX0_bendGuest_12 ic_0 ?_
  refine g_bipush dX0_bendGuest_13 bp_99 ?_
  refine g_iload_n dX0_bendGuest_15 rfl ?_
  refine g_min dX0_bendGuest_16 ml_X0_69 mm_minS mm_I mm_minC (by decide) (Nat.le_of_ble_eq_true rfl) ?_
  refine g_max dX0_bendGuest_19 ml_X0_64 mm_maxS mm_I mm_maxC (by decide) (Nat.le_of_ble_eq_true rfl) ?_
  refine g_callV3v (c_X0_putGuestFact (w := 0) hb he (by decide)) mi_X0_putGuestFact mv_X0_putGuestFact ml_X0_51 dX0_bendGuest_22 hb.1 rfl (by decide) (Nat.le_of_ble_eq_true rfl) (Nat.le_of_ble_eq_true rfl) ?_
  exact g_return dX0_bendGuest_25 rfl (by rw [mx_hld])

set_option maxRecDepth 100000 in
set_option maxHeartbeats 4000000 in
theorem c_X0_serveOnce {X : Sc} {h : Hp} {b g : Nat} (hb : InnAt b g) {d : Nat} (hd : d < 8) (hp : ¬ dF (h g) d 4 + 1 < 0) : Ct X yX0_serveOnce cX0_serveOnce 2 none 1 [.ref b, .int (nI d)] h none (setg h g (pD (h g) d 4 (hld (dF (h g) d 4 + 1) 0 9999))) := by
  refine ⟨trivial, ?_⟩
  refine g_aload_n dX0_serveOnce_0 rfl ?_
  refine g_iload_n dX0_serveOnce_1 rfl ?_
  refine g_iconst dX0_serveOnce_2 ic_4 ?_
  refine g_sipush dX0_serveOnce_3 sp_9999 ?_
  refine g_aload_n dX0_serveOnce_6 rfl ?_
  refine g_iload_n dX0_serveOnce_7 rfl ?_
  refine g_iconst dX0_serveOnce_8 ic_4 ?_
  refine g_callV2i (c_X0_dishFact (w := 4) hb hd (by decide)) mi_X0_dishFact mv_X0_dishFact ml_X0_43 dX0_serveOnce_9 hb.1 rfl (by decide) (Nat.le_of_ble_eq_true rfl) (Nat.le_of_ble_eq_true rfl) ?_
  refine g_iconst dX0_serveOnce_12 ic_1 ?_
  refine g_iadd dX0_serveOnce_13 ?_
  refine g_min dX0_serveOnce_14 ml_X0_69 mm_minS mm_I mm_minC (by decide) (Nat.le_of_ble_eq_true rfl) ?_
  refine g_callV3v (c_X0_putDishFact (w := 4) hb hd (by decide)) mi_X0_putDishFact mv_X0_putDishFact ml_X0_47 dX0_serveOnce_17 hb.1 rfl (by decide) (Nat.le_of_ble_eq_true rfl) (Nat.le_of_ble_eq_true rfl) ?_
  exact g_return dX0_serveOnce_20 rfl (by rw [mn_hld hp])

theorem gF_pG (m : Rw) (e w : Nat) (v : Int32) : gF (pG m e w v) e w = v := upd_s _ _ _
theorem gF_pGn (m : Rw) (e : Nat) {w w2 : Nat} (v : Int32) (n : w2 ≠ w) : gF (pG m e w v) e w2 = gF m e w2 := upd_n _ _ (by omega)
theorem gF_pGo (m : Rw) {e e2 w w2 : Nat} (v : Int32) (hw : w < 5) (hw2 : w2 < 5) (n : e2 ≠ e) : gF (pG m e w v) e2 w2 = gF m e2 w2 := upd_n _ _ (by omega)
theorem dF_pG (m : Rw) (e w : Nat) {d w2 : Nat} (v : Int32) (hd : d < 8) (hw : w2 < 6) : dF (pG m e w v) d w2 = dF m d w2 := upd_n _ _ (by omega)
theorem gF_pD (m : Rw) {d w e w2 : Nat} (v : Int32) (hd : d < 8) (hw : w < 6) : gF (pD m d w v) e w2 = gF m e w2 := upd_n _ _ (by omega)
theorem dF_pD (m : Rw) (d w : Nat) (v : Int32) : dF (pD m d w v) d w = v := upd_s _ _ _
theorem dF_pDn (m : Rw) (d : Nat) {w w2 : Nat} (v : Int32) (n : w2 ≠ w) : dF (pD m d w v) d w2 = dF m d w2 := upd_n _ _ (by omega)
theorem dF_pDo (m : Rw) {d d2 w w2 : Nat} (v : Int32) (hw : w < 6) (hw2 : w2 < 6) (n : d2 ≠ d) : dF (pD m d w v) d2 w2 = dF m d2 w2 := upd_n _ _ (by omega)
theorem pG_c (m : Rw) (e : Nat) {w w2 : Nat} (v v2 : Int32) (n : w ≠ w2) : pG (pG m e w v) e w2 v2 = pG (pG m e w2 v2) e w v := upd_c _ (by omega) _ _
theorem In.posD {m : Rw} (h : In m) {d : Nat} (hd : d < 8) : ¬ dF m d 4 + 1 < 0 := by
  obtain ⟨x, hx, ex⟩ := h.d hd (w := 4) (by decide)
  have hx : x ≤ 9999 := hx
  rw [ex, nI_1]; exact nI_pos (by omega)
theorem In.posE {m : Rw} (h : In m) {e : Nat} (he : e < 6) : ¬ gF m e 4 + 1 < 0 := by
  obtain ⟨x, hx, ex⟩ := h.g he (w := 4) (by decide)
  have hx : x ≤ 9999 := hx
  rw [ex, nI_1]; exact nI_pos (by omega)
theorem In.cst {m : Rw} (h : In m) {e d : Nat} (he : e < 6) (hd : d < 8) (l : Bool) : ∃ x, x ≤ 216 ∧ cst m e d l = nI x := by
  obtain ⟨p, hp, ep⟩ := h.d hd (w := 3) (by decide)
  obtain ⟨q, hq, eq⟩ := h.g he (w := 0) (by decide)
  have hp : p ≤ 99 := hp
  have hq : q ≤ 99 := hq
  have e10 : nI q / 10 = nI (q / 10) := pk_div (d := 10) (by omega) (by decide) (by decide)
  have er : dF m d 3 + gF m e 0 / 10 = nI (p + q / 10) := by rw [ep, eq, e10, nI_add]
  have e2 : 2 * (dF m d 3 + gF m e 0 / 10) = nI (2 * (p + q / 10)) := by rw [er, show (2 : Int32) = nI 2 from rfl, pk_mul]
  unfold Jvm.Pilot.CForkInnLaw_law_r3082_bfc7c5.cst
  by_cases k1 : dF m d 0 = 1
  · rw [if_pos k1]
    have : ∀ p, p ≤ 99 → ∃ x, x ≤ 216 ∧ (if 2 < nI p then nI p - 2 else 0) = nI x := by
      intro p hp
      by_cases c : 2 < p
      · refine ⟨p - 2, by omega, ?_⟩
        rw [if_pos (show (2 : Int32) < nI p from nI_lt (a := 2) c (by omega)), show (2 : Int32) = nI 2 from rfl, pk_sub (by omega)]
      · refine ⟨0, by omega, ?_⟩
        rw [if_neg (show ¬ (2 : Int32) < nI p from nI_nlt (a := 2) (by omega) (by decide))]; rfl
    rw [ep]
    exact this p hp
  · rw [if_neg k1]
    by_cases k2 : dF m d 0 = 6
    · rw [if_pos k2]; exact ⟨1, by omega, rfl⟩
    · rw [if_neg k2]
      by_cases k3 : dF m d 0 = 2
      · rw [if_pos k3]; exact ⟨_, by omega, er⟩
      · rw [if_neg k3]
        by_cases k4 : dF m d 0 = 3
        · rw [if_pos k4]; exact ⟨_, by omega, e2⟩
        · rw [if_neg k4]
          by_cases k5 : dF m d 0 = 4
          · rw [if_pos k5]
            cases l
            · exact ⟨_, by omega, er⟩
            · exact ⟨_, by omega, e2⟩
          · rw [if_neg k5]; exact ⟨p, by omega, ep⟩
theorem In.posB {m : Rw} (h : In m) {e d : Nat} (he : e < 6) (hd : d < 8) (l : Bool) : ¬ gF m e 2 + Jvm.Pilot.CForkInnLaw_law_r3082_bfc7c5.cst m e d l < 0 := by
  obtain ⟨x, hx, ex⟩ := h.g he (w := 2) (by decide)
  have hx : x ≤ 99999 := hx
  obtain ⟨y, hy, ey⟩ := h.cst he hd l
  rw [ex, ey, nI_add]; exact nI_pos (by omega)
set_option maxRecDepth 100000 in
set_option maxHeartbeats 4000000 in
theorem c_X0_haveMeal {X : Sc} {h : Hp} {b g : Nat} (hb : InnAt b g) (hI : In (h g)) {e d : Nat} (he : e < 6) (hd : d < 8) : Ct X yX0_haveMeal cX0_haveMeal 6 none 2 [.ref b, .int (nI e), .int (nI d)] h none (setg h g (eatR (h g) e d)) := by
  refine ⟨trivial, ?_⟩
  refine g_aload_n dX0_haveMeal_0 rfl ?_
  refine g_iload_n dX0_haveMeal_1 rfl ?_
  refine g_iload_n dX0_haveMeal_2 rfl ?_
  refine g_callV2i (c_X0_takesLeft hb hI he hd) mi_X0_takesLeft mv_X0_takesLeft ml_X0_72 dX0_haveMeal_3 hb.1 rfl (by decide) (Nat.le_of_ble_eq_true rfl) (Nat.le_of_ble_eq_true rfl) ?_
  refine g_istore_n dX0_haveMeal_6 (by decide) rfl ?_
  refine g_aload_n dX0_haveMeal_7 rfl ?_
  refine g_iload_n dX0_haveMeal_8 rfl ?_
  refine g_iload_n dX0_haveMeal_9 rfl ?_
  refine g_callV2i (c_X0_townOf hb hd) mi_X0_townOf mv_X0_townOf ml_X0_75 dX0_haveMeal_10 hb.1 rfl (by decide) (Nat.le_of_ble_eq_true rfl) (Nat.le_of_ble_eq_true rfl) ?_
  refine g_istore dX0_haveMeal_13 (by decide) rfl ?_
  refine g_aload_n dX0_haveMeal_15 rfl ?_
  refine g_iload_n dX0_haveMeal_16 rfl ?_
  refine g_iconst dX0_haveMeal_17 ic_2 ?_
  refine g_callV2i (c_X0_guestFact (w := 2) hb he (by decide)) mi_X0_guestFact mv_X0_guestFact ml_X0_57 dX0_haveMeal_18 hb.1 rfl (by decide) (Nat.le_of_ble_eq_true rfl) (Nat.le_of_ble_eq_true rfl) ?_
  refine g_aload_n dX0_haveMeal_21 rfl ?_
  refine g_iload_n dX0_haveMeal_22 rfl ?_
  refine g_iload_n dX0_haveMeal_23 rfl ?_
  refine g_iload_n dX0_haveMeal_24 rfl ?_
  refine g_callV3i (c_X0_costOf hb hI he hd) mi_X0_costOf mv_X0_costOf ml_X0_79 dX0_haveMeal_25 hb.1 rfl (by decide) (Nat.le_of_ble_eq_true rfl) (Nat.le_of_ble_eq_true rfl) ?_
  refine g_iadd dX0_haveMeal_28 ?_
  refine g_istore dX0_haveMeal_29 (by decide) rfl ?_
  refine g_aload_n dX0_haveMeal_31 rfl ?_
  refine g_iload_n dX0_haveMeal_32 rfl ?_
  refine g_iconst dX0_haveMeal_33 ic_1 ?_
  refine g_iload dX0_haveMeal_34 rfl ?_
  refine g_callV3v (c_X0_putGuestFact (w := 1) hb he (by decide)) mi_X0_putGuestFact mv_X0_putGuestFact ml_X0_51 dX0_haveMeal_36 hb.1 rfl (by decide) (Nat.le_of_ble_eq_true rfl) (Nat.le_of_ble_eq_true rfl) ?_
  refine g_aload_n dX0_haveMeal_39 rfl ?_
  refine g_iload_n dX0_haveMeal_40 rfl ?_
  refine g_iconst dX0_haveMeal_41 ic_3 ?_
  refine g_aload_n dX0_haveMeal_42 rfl ?_
  refine g_iload_n dX0_haveMeal_43 rfl ?_
  refine g_iconst dX0_haveMeal_44 ic_3 ?_
  refine g_callV2i (c_X0_guestFact (w := 3) hb he (by decide)) mi_X0_guestFact mv_X0_guestFact ml_X0_57 dX0_haveMeal_45 hb.1 rfl (by decide) (Nat.le_of_ble_eq_true rfl) (Nat.le_of_ble_eq_true rfl) ?_
  refine g_iconst dX0_haveMeal_48 ic_1 ?_
  refine g_iload dX0_haveMeal_49 rfl ?_
  refine g_ishl dX0_haveMeal_51 ?_
  refine g_ior dX0_haveMeal_52 ?_
  refine g_callV3v (c_X0_putGuestFact (w := 3) hb he (by decide)) mi_X0_putGuestFact mv_X0_putGuestFact ml_X0_51 dX0_haveMeal_53 hb.1 rfl (by decide) (Nat.le_of_ble_eq_true rfl) (Nat.le_of_ble_eq_true rfl) ?_
  refine g_aload_n dX0_haveMeal_56 rfl ?_
  refine g_iload_n dX0_haveMeal_57 rfl ?_
  refine g_iconst dX0_haveMeal_58 ic_2 ?_
  refine g_ldc dX0_haveMeal_59 lc_X0_83 ?_
  refine g_iload dX0_haveMeal_61 rfl ?_
  refine g_min dX0_haveMeal_63 ml_X0_69 mm_minS mm_I mm_minC (by decide) (Nat.le_of_ble_eq_true rfl) ?_
  refine g_callV3v (c_X0_putGuestFact (w := 2) hb he (by decide)) mi_X0_putGuestFact mv_X0_putGuestFact ml_X0_51 dX0_haveMeal_66 hb.1 rfl (by decide) (Nat.le_of_ble_eq_true rfl) (Nat.le_of_ble_eq_true rfl) ?_
  refine g_aload_n dX0_haveMeal_69 rfl ?_
  refine g_iload_n dX0_haveMeal_70 rfl ?_
  refine g_iconst dX0_haveMeal_71 ic_4 ?_
  refine g_sipush dX0_haveMeal_72 sp_9999 ?_
  refine g_aload_n dX0_haveMeal_75 rfl ?_
  refine g_iload_n dX0_haveMeal_76 rfl ?_
  refine g_iconst dX0_haveMeal_77 ic_4 ?_
  refine g_callV2i (c_X0_guestFact (w := 4) hb he (by decide)) mi_X0_guestFact mv_X0_guestFact ml_X0_57 dX0_haveMeal_78 hb.1 rfl (by decide) (Nat.le_of_ble_eq_true rfl) (Nat.le_of_ble_eq_true rfl) ?_
  refine g_iconst dX0_haveMeal_81 ic_1 ?_
  refine g_iadd dX0_haveMeal_82 ?_
  refine g_min dX0_haveMeal_83 ml_X0_69 mm_minS mm_I mm_minC (by decide) (Nat.le_of_ble_eq_true rfl) ?_
  refine g_callV3v (c_X0_putGuestFact (w := 4) hb he (by decide)) mi_X0_putGuestFact mv_X0_putGuestFact ml_X0_51 dX0_haveMeal_86 hb.1 rfl (by decide) (Nat.le_of_ble_eq_true rfl) (Nat.le_of_ble_eq_true rfl) ?_
  refine g_aload_n dX0_haveMeal_89 rfl ?_
  refine g_iload_n dX0_haveMeal_90 rfl ?_
  refine g_aload_n dX0_haveMeal_91 rfl ?_
  refine g_iload_n dX0_haveMeal_92 rfl ?_
  refine g_iconst dX0_haveMeal_93 ic_0 ?_
  refine g_callV2i (c_X0_dishFact (w := 0) hb hd (by decide)) mi_X0_dishFact mv_X0_dishFact ml_X0_43 dX0_haveMeal_94 hb.1 rfl (by decide) (Nat.le_of_ble_eq_true rfl) (Nat.le_of_ble_eq_true rfl) ?_
  refine g_iload_n dX0_haveMeal_97 rfl ?_
  refine g_callS2i (c_X0_bendOf) mi_X0_bendOf ms_X0_bendOf ml_X0_84 dX0_haveMeal_98 (by decide) (Nat.le_of_ble_eq_true rfl) (Nat.le_of_ble_eq_true rfl) ?_
  refine g_callV2v (c_X0_bendGuest hb he) mi_X0_bendGuest mv_X0_bendGuest ml_X0_87 dX0_haveMeal_101 hb.1 rfl (by decide) (Nat.le_of_ble_eq_true rfl) (Nat.le_of_ble_eq_true rfl) ?_
  refine g_aload_n dX0_haveMeal_104 rfl ?_
  refine g_iload_n dX0_haveMeal_105 rfl ?_
  refine g_callV1v (c_X0_serveOnce hb hd (by simp [setg_s, dF_pG, hd, hI.posD hd])) mi_X0_serveOnce mv_X0_serveOnce ml_X0_91 dX0_haveMeal_106 hb.1 rfl (by decide) (Nat.le_of_ble_eq_true rfl) (Nat.le_of_ble_eq_true rfl) ?_
  exact g_return dX0_haveMeal_109 rfl (by simp only [setg_s, setg_2]; congr 1; simp [gF_pGn, dF_pG, hd, mn_hld (hI.posB he hd _), mn_hld (hI.posE he)]; unfold eatR; rw [pG_c _ _ _ _ (show 3 ≠ 2 by decide), pG_c _ _ _ _ (show 1 ≠ 2 by decide)])
end
section
/-! THE INN: days, sums, copies -/
theorem hld_in (z : Int32) {t : Nat} (ht : t < 2 ^ 31) : ∃ x, x ≤ t ∧ hld z 0 (nI t) = nI x := by
  unfold hld
  by_cases h1 : z < 0
  · rw [if_pos h1]; exact ⟨0, Nat.zero_le _, rfl⟩
  · rw [if_neg h1]
    obtain ⟨j, hj, rfl⟩ := nI_of h1
    by_cases h2 : nI t < nI j
    · rw [if_pos h2]; exact ⟨t, Nat.le_refl _, rfl⟩
    · rw [if_neg h2]
      exact ⟨j, Nat.le_of_not_lt (fun q => h2 (nI_lt q hj)), rfl⟩
theorem nI_or (a b : Nat) : nI a ||| nI b = nI (a ||| b) := by
  apply Int32.toBitVec_inj.1
  show BitVec.ofNat 32 a ||| BitVec.ofNat 32 b = BitVec.ofNat 32 (a ||| b)
  apply BitVec.eq_of_getLsbD_eq
  intro i hi
  simp [hi]
theorem sh_nI : ∀ x, x ≤ 11 → (1 : Int32) <<< (nI x &&& 31) = nI (2 ^ x) := by decide +kernel
theorem been_in {m : Rw} {x y : Nat} (hx : x ≤ 11) (hy : y ≤ 4095) : ∃ z, z ≤ 4095 ∧ nI y ||| 1 <<< (nI x &&& 31) = nI z := by
  refine ⟨y ||| 2 ^ x, ?_, by rw [sh_nI x hx, nI_or]⟩
  have h1 : y ||| 2 ^ x < 2 ^ 12 := Nat.or_lt_two_pow (by omega) (Nat.pow_lt_pow_right (by decide) (by omega))
  omega
theorem nD_upd {m : Rw} {k : Nat} {v : Int32} (hk : k ≠ 2) : nD (upd m k v) = nD m := by unfold nD; rw [upd_n _ _ (Ne.symm hk)]
theorem nG_upd {m : Rw} {k : Nat} {v : Int32} (hk : k ≠ 3) : nG (upd m k v) = nG m := by unfold nG; rw [upd_n _ _ (Ne.symm hk)]
theorem In.upd {m : Rw} (h : In m) {k x : Nat} (hk : k < 88) (h1 : k ≠ 1) (h2 : k ≠ 2) (hx : okc k x) : In (upd m k (nI x)) := by
  refine ⟨fun j hj hj1 => ?_, fun s hs => ?_⟩
  · by_cases e : j = k
    · subst e; exact ⟨x, hx, upd_s _ _ _⟩
    · rw [upd_n _ _ e]; exact h.1 j hj hj1
  · rw [upd_n _ _ (by omega), nD_upd h2]; exact h.2 s hs
theorem In.pG {m : Rw} (h : In m) {e w x : Nat} (he : e < 6) (hw : w < 5) (hx : x ≤ gTop w) : In (pG m e w (nI x)) := by
  refine h.upd (by omega) (by omega) (by omega) ?_
  unfold okc
  rw [if_neg (by omega), if_neg (by omega), if_neg (by omega), if_neg (by omega), if_neg (by omega), show (58 + (e * 5 + w) - 58) % 5 = w by omega]
  exact hx
theorem In.pD {m : Rw} (h : In m) {d w x : Nat} (hd : d < 8) (hw : w < 6) (hx : x ≤ dTop w) : In (pD m d w (nI x)) := by
  refine h.upd (by omega) (by omega) (by omega) ?_
  unfold okc
  rw [if_neg (by omega), if_neg (by omega), if_neg (by omega), if_neg (by omega), if_pos (by omega), show (10 + (d * 6 + w) - 10) % 6 = w by omega]
  exact hx
theorem In.pG' {m : Rw} (h : In m) {e w : Nat} {v : Int32} (he : e < 6) (hw : w < 5) (hv : ∃ x, x ≤ gTop w ∧ v = nI x) : In (Jvm.Pilot.CForkInnLaw_law_r3082_bfc7c5.pG m e w v) := by
  obtain ⟨x, hx, rfl⟩ := hv
  exact h.pG he hw hx
theorem In.pD' {m : Rw} (h : In m) {d w : Nat} {v : Int32} (hd : d < 8) (hw : w < 6) (hv : ∃ x, x ≤ dTop w ∧ v = nI x) : In (Jvm.Pilot.CForkInnLaw_law_r3082_bfc7c5.pD m d w v) := by
  obtain ⟨x, hx, rfl⟩ := hv
  exact h.pD hd hw hx
theorem In.twn {m : Rw} (h : In m) {d : Nat} (hd : d < 8) (l : Bool) : ∃ x, x ≤ 11 ∧ twn m d l = nI x := by
  cases l
  · exact h.d hd (w := 2) (by decide)
  · exact h.d hd (w := 1) (by decide)
theorem In.eat {m : Rw} (h : In m) {e d : Nat} (he : e < 6) (hd : d < 8) : In (eatR m e d) := by
  unfold eatR
  have h3 : ∃ z, z ≤ 4095 ∧ gF m e 3 ||| 1 <<< (Jvm.Pilot.CForkInnLaw_law_r3082_bfc7c5.twn m d (lft m e d) &&& 31) = nI z := by
    obtain ⟨x, hx, ex⟩ := h.twn hd (lft m e d)
    obtain ⟨y, hy, ey⟩ := h.g he (w := 3) (by decide)
    rw [ex, ey]
    exact been_in (m := m) hx hy
  exact ((((((h.pG' (w := 2) he (by decide) (hld_in _ (t := 99999) (by decide))).pG' (w := 1) he (by decide) (h.twn hd _)).pG' (w := 3) he (by decide) h3).pG' (w := 4) he (by decide) (hld_in _ (t := 9999) (by decide))).pG' (w := 0) he (by decide) (hld_in _ (t := 99) (by decide))).pD' (w := 4) hd (by decide) (hld_in _ (t := 9999) (by decide)))
theorem eatR_lo (m : Rw) (e d : Nat) {k : Nat} (hk : k < 10) : eatR m e d k = m k := by
  unfold eatR pD pG
  rw [upd_n _ _ (by omega), upd_n _ _ (by omega), upd_n _ _ (by omega), upd_n _ _ (by omega), upd_n _ _ (by omega), upd_n _ _ (by omega)]
theorem mealOf_eq {m : Rw} {t q : Nat} (ht : t < 2 ^ 31) (hq : q < 2 ^ 31) (e0 : m 0 = nI t) (e1 : m (4 + t % 6) = nI q) : mealOf m = q := by
  unfold mealOf
  rw [e0, nI_clamp ht, e1, nI_clamp hq]
theorem In.day0 {m : Rw} (h : In m) : ¬ m 0 + 1 < 0 := by
  obtain ⟨t, ht, e⟩ := h.day
  rw [e, nI_1]; exact nI_pos (by omega)
theorem In.dayR {m : Rw} (h : In m) : In (dayR m) := by
  unfold Jvm.Pilot.CForkInnLaw_law_r3082_bfc7c5.dayR
  obtain ⟨x, hx, ex⟩ := hld_in (m 0 + 1) (t := 99999) (by decide)
  have ex : hld (m 0 + 1) 0 99999 = nI x := ex
  rw [ex]
  have hok : okc 0 x := by simpa [okc] using hx
  split
  · rename_i c
    have a1 := h.nG.1
    have a2 := h.nD.1
    exact (h.eat (by omega) (by omega)).upd (by decide) (by decide) (by decide) hok
  · exact h.upd (by decide) (by decide) (by decide) hok
theorem In.days {m : Rw} (h : In m) : ∀ n, In (daysR m n)
  | 0 => h
  | n + 1 => (h.days n).dayR
theorem rem6 {t : Nat} (ht : t < 2 ^ 31) : nI t - nI t / 6 * 6 = nI (t % 6) := pk_rem (d := 6) ht (by decide) (by decide)
theorem div10 {t : Nat} (ht : t < 2 ^ 31) : nI t / 10 = nI (t / 10) := pk_div (d := 10) ht (by decide) (by decide)
theorem rem10 {t : Nat} (ht : t < 2 ^ 31) : nI t - nI t / 10 * 10 = nI (t % 10) := pk_rem (d := 10) ht (by decide) (by decide)
theorem day_no {m : Rw} (h : In m) (c : ¬ (mealOf m / 10 < nG m ∧ mealOf m % 10 < nD m ∧ dF m (mealOf m % 10) 5 = 0)) : upd m 0 (if m 0 + 1 < 99999 then m 0 + 1 else 99999) = dayR m := by
  unfold dayR
  rw [if_neg c, mn_hld h.day0]
theorem day_yes {m : Rw} (h : In m) (c : mealOf m / 10 < nG m ∧ mealOf m % 10 < nD m ∧ dF m (mealOf m % 10) 5 = 0) : upd (eatR m (mealOf m / 10) (mealOf m % 10)) 0 (if m 0 + 1 < 99999 then m 0 + 1 else 99999) = dayR m := by
  unfold dayR
  rw [if_pos c, mn_hld h.day0]
theorem In.off {m : Rw} (h : In m) {d : Nat} (hd : d < 8) : dF m d 5 = 0 ∨ dF m d 5 = 1 := by
  obtain ⟨x5, hx5, e5⟩ := h.d hd (w := 5) (by decide)
  have hx5 : x5 ≤ 1 := hx5
  rcases (show x5 = 0 ∨ x5 = 1 by omega) with r | r
  · exact Or.inl (by rw [e5, r]; rfl)
  · exact Or.inr (by rw [e5, r]; rfl)
set_option maxRecDepth 100000 in
set_option maxHeartbeats 4000000 in
theorem c_X0_passDay {X : Sc} {h : Hp} {b g : Nat} (hb : InnAt b g) (hI : In (h g)) : Ct X yX0_passDay cX0_passDay 4 none 3 [.ref b] h none (setg h g (dayR (h g))) := by
  obtain ⟨t, ht, e0⟩ := hI.day
  obtain ⟨q, h6, h8, eq⟩ := hI.meal (i := t % 6) (by omega)
  have eM : mealOf (h g) = q := mealOf_eq (by omega) (by omega) e0 eq
  have hG := isG_nI (d := q / 10) hI.nG.2 (by have := hI.nG.1; omega) (by omega)
  have hD := isD_nI (d := q % 10) hI.nD.2 (by have := hI.nD.1; omega) (by omega)
  have o5 := hI.off h8
  refine ⟨trivial, ?_⟩
  refine g_aload_n dX0_passDay_0 rfl ?_
  refine g_getR dX0_passDay_1 fl_X0_11 hb.1 rfl ?_
  refine g_aload_n dX0_passDay_4 rfl ?_
  refine g_getI dX0_passDay_5 fl_X0_40 hb.1 rfl ?_
  refine g_st (st2 := [.int (nI t), .ref (b + 1)]) (by rw [e0]) ?_
  refine g_bipush dX0_passDay_8 bp_6 ?_
  refine g_irem dX0_passDay_10 (by decide) ?_
  refine g_iald (t % 6) dX0_passDay_11 hb.2.1 (rem6 (by omega)) (by omega) ?_
  refine g_st (st2 := [.int (nI q)]) (by rw [eq]) ?_
  refine g_istore_n dX0_passDay_12 (by decide) rfl ?_
  refine g_iload_n dX0_passDay_13 rfl ?_
  refine g_callS1i (c_X0_guestOfMeal) mi_X0_guestOfMeal ms_X0_guestOfMeal ml_X0_95 dX0_passDay_14 (by decide) (Nat.le_of_ble_eq_true rfl) (Nat.le_of_ble_eq_true rfl) ?_
  refine g_st (st2 := [.int (nI (q / 10))]) (by rw [div10 (by omega)]) ?_
  refine g_istore_n dX0_passDay_17 (by decide) rfl ?_
  refine g_iload_n dX0_passDay_18 rfl ?_
  refine g_callS1i (c_X0_dishOfMeal) mi_X0_dishOfMeal ms_X0_dishOfMeal ml_X0_99 dX0_passDay_19 (by decide) (Nat.le_of_ble_eq_true rfl) (Nat.le_of_ble_eq_true rfl) ?_
  refine g_st (st2 := [.int (nI (q % 10))]) (by rw [rem10 (by omega)]) ?_
  refine g_istore_n dX0_passDay_22 (by decide) rfl ?_
  refine g_aload_n dX0_passDay_23 rfl ?_
  refine g_iload_n dX0_passDay_24 rfl ?_
  refine g_callV1i (c_X0_isGuest hb) mi_X0_isGuest mv_X0_isGuest ml_X0_102 dX0_passDay_25 hb.1 rfl (by decide) (Nat.le_of_ble_eq_true rfl) (Nat.le_of_ble_eq_true rfl) ?_
  refine g_if_eq 53 dX0_passDay_28 (by decide) (fun c28 => ?_) (fun c28 => ?_)
  · refine g_aload_n dX0_passDay_53 rfl ?_
    refine g_ldc dX0_passDay_54 lc_X0_83 ?_
    refine g_aload_n dX0_passDay_56 rfl ?_
    refine g_getI dX0_passDay_57 fl_X0_40 hb.1 rfl ?_
    refine g_iconst dX0_passDay_60 ic_1 ?_
    refine g_iadd dX0_passDay_61 ?_
    refine g_min dX0_passDay_62 ml_X0_69 mm_minS mm_I mm_minC (by decide) (Nat.le_of_ble_eq_true rfl) ?_
    refine g_putI dX0_passDay_65 fl_X0_40 fp_0_6 hb.1 rfl ?_
    exact g_return dX0_passDay_68 rfl (by first | (rw [up_setg, day_no hI (by rw [eM]; rintro ⟨x1, x2, x3⟩; simp_all [bI_0])]) | (rw [up_setg, setg_s, setg_2, eatR_lo _ _ _ (by decide), ← eM, day_yes hI (by rw [eM]; refine ⟨?_, ?_, ?_⟩ <;> simp_all [bI_0])]))
  · refine g_aload_n dX0_passDay_31 rfl ?_
    refine g_iload_n dX0_passDay_32 rfl ?_
    refine g_callV1i (c_X0_isDish hb) mi_X0_isDish mv_X0_isDish ml_X0_106 dX0_passDay_33 hb.1 rfl (by decide) (Nat.le_of_ble_eq_true rfl) (Nat.le_of_ble_eq_true rfl) ?_
    refine g_if_eq 53 dX0_passDay_36 (by decide) (fun c36 => ?_) (fun c36 => ?_)
    · refine g_aload_n dX0_passDay_53 rfl ?_
      refine g_ldc dX0_passDay_54 lc_X0_83 ?_
      refine g_aload_n dX0_passDay_56 rfl ?_
      refine g_getI dX0_passDay_57 fl_X0_40 hb.1 rfl ?_
      refine g_iconst dX0_passDay_60 ic_1 ?_
      refine g_iadd dX0_passDay_61 ?_
      refine g_min dX0_passDay_62 ml_X0_69 mm_minS mm_I mm_minC (by decide) (Nat.le_of_ble_eq_true rfl) ?_
      refine g_putI dX0_passDay_65 fl_X0_40 fp_0_6 hb.1 rfl ?_
      exact g_return dX0_passDay_68 rfl (by first | (rw [up_setg, day_no hI (by rw [eM]; rintro ⟨x1, x2, x3⟩; simp_all [bI_0])]) | (rw [up_setg, setg_s, setg_2, eatR_lo _ _ _ (by decide), ← eM, day_yes hI (by rw [eM]; refine ⟨?_, ?_, ?_⟩ <;> simp_all [bI_0])]))
    · refine g_aload_n dX0_passDay_39 rfl ?_
      refine g_iload_n dX0_passDay_40 rfl ?_
      refine g_callV1i (c_X0_isOff hb h8) mi_X0_isOff mv_X0_isOff ml_X0_109 dX0_passDay_41 hb.1 rfl (by decide) (Nat.le_of_ble_eq_true rfl) (Nat.le_of_ble_eq_true rfl) ?_
      refine g_if_ne 53 dX0_passDay_44 (by decide) (fun c44 => ?_) (fun c44 => ?_)
      · refine g_aload_n dX0_passDay_53 rfl ?_
        refine g_ldc dX0_passDay_54 lc_X0_83 ?_
        refine g_aload_n dX0_passDay_56 rfl ?_
        refine g_getI dX0_passDay_57 fl_X0_40 hb.1 rfl ?_
        refine g_iconst dX0_passDay_60 ic_1 ?_
        refine g_iadd dX0_passDay_61 ?_
        refine g_min dX0_passDay_62 ml_X0_69 mm_minS mm_I mm_minC (by decide) (Nat.le_of_ble_eq_true rfl) ?_
        refine g_putI dX0_passDay_65 fl_X0_40 fp_0_6 hb.1 rfl ?_
        exact g_return dX0_passDay_68 rfl (by first | (rw [up_setg, day_no hI (by rw [eM]; rintro ⟨x1, x2, x3⟩; simp_all [bI_0])]) | (rw [up_setg, setg_s, setg_2, eatR_lo _ _ _ (by decide), ← eM, day_yes hI (by rw [eM]; refine ⟨?_, ?_, ?_⟩ <;> simp_all [bI_0])]))
      · refine g_aload_n dX0_passDay_47 rfl ?_
        refine g_iload_n dX0_passDay_48 rfl ?_
        refine g_iload_n dX0_passDay_49 rfl ?_
        refine g_callV2v (c_X0_haveMeal hb hI h6 h8) mi_X0_haveMeal mv_X0_haveMeal ml_X0_112 dX0_passDay_50 hb.1 rfl (by decide) (Nat.le_of_ble_eq_true rfl) (Nat.le_of_ble_eq_true rfl) ?_
        refine g_aload_n dX0_passDay_53 rfl ?_
        refine g_ldc dX0_passDay_54 lc_X0_83 ?_
        refine g_aload_n dX0_passDay_56 rfl ?_
        refine g_getI dX0_passDay_57 fl_X0_40 hb.1 rfl ?_
        refine g_iconst dX0_passDay_60 ic_1 ?_
        refine g_iadd dX0_passDay_61 ?_
        refine g_min dX0_passDay_62 ml_X0_69 mm_minS mm_I mm_minC (by decide) (Nat.le_of_ble_eq_true rfl) ?_
        refine g_putI dX0_passDay_65 fl_X0_40 fp_0_6 hb.1 rfl ?_
        exact g_return dX0_passDay_68 rfl (by first | (rw [up_setg, day_no hI (by rw [eM]; rintro ⟨x1, x2, x3⟩; simp_all [bI_0])]) | (rw [up_setg, setg_s, setg_2, eatR_lo _ _ _ (by decide), ← eM, day_yes hI (by rw [eM]; refine ⟨?_, ?_, ?_⟩ <;> simp_all [bI_0])]))

set_option maxRecDepth 100000 in
set_option maxHeartbeats 4000000 in
theorem l_X0_passDays {X : Sc} {h : Hp} {b g : Nat} (hb : InnAt b g) (hI : In (h g)) {n : Nat} (hn : n < 2 ^ 31) : ∀ k, k ≤ n → Go X RX0 cX0_passDays 3 4 2 [.ref b, .int (nI n), .int (nI k)] [] (setg h g (daysR (h g) k)) none (setg h g (daysR (h g) n)) := by
  refine loop_up (n) ?_ ?_
  · refine g_iload_n dX0_passDays_2 rfl ?_
    refine g_iload_n dX0_passDays_3 rfl ?_
    refine g_icmp_ge 17 dX0_passDays_4 (by decide) (fun c4 => ?_) (fun c4 => ?_)
    · exact g_return dX0_passDays_17 rfl rfl
    · exact (lp_yes ((rfl : nI n = nI n)) (by omega) c4).elim
  · intro k hk ih
    refine g_iload_n dX0_passDays_2 rfl ?_
    refine g_iload_n dX0_passDays_3 rfl ?_
    refine g_icmp_ge 17 dX0_passDays_4 (by decide) (fun c4 => ?_) (fun c4 => ?_)
    · exact (lp_no ((rfl : nI n = nI n)) (by omega) hk c4).elim
    · refine g_aload_n dX0_passDays_7 rfl ?_
      refine g_callV0v (c_X0_passDay hb (by rw [setg_s]; exact hI.days k)) mi_X0_passDay mv_X0_passDay ml_X0_115 dX0_passDays_8 hb.1 rfl (by decide) (Nat.le_of_ble_eq_true rfl) (Nat.le_of_ble_eq_true rfl) ?_
      refine g_iinc dX0_passDays_11 rfl (ii_n _) (by decide) rfl ?_
      refine g_goto 2 dX0_passDays_14 (by decide) ?_
      exact g_h (by rw [setg_s, setg_2]; rfl) ih

set_option maxRecDepth 100000 in
set_option maxHeartbeats 4000000 in
theorem c_X0_passDays {X : Sc} {h : Hp} {b g : Nat} (hb : InnAt b g) (hI : In (h g)) {n : Nat} (hn : n < 2 ^ 31) : Ct X yX0_passDays cX0_passDays 3 none 4 [.ref b, .int (nI n)] h none (setg h g (daysR (h g) n)) := by
  refine ⟨trivial, ?_⟩
  refine g_iconst dX0_passDays_0 ic_0 ?_
  refine g_istore_n dX0_passDays_1 (by decide) rfl ?_
  exact g_h (setg_id h g).symm (l_X0_passDays hb hI hn 0 (Nat.zero_le _))

def drwZ (z : Int32) : Int32 := z * 1103515245 + 12345
def drwV (z : Int32) : Int32 := ((drwZ z).toUInt32 >>> ((8 : Int32).toUInt32 &&& Int32.toUInt32 31)).toInt32
set_option maxRecDepth 100000 in
set_option maxHeartbeats 4000000 in
theorem c_X0_drawNumber {X : Sc} {h : Hp} {b g : Nat} (hb : InnAt b g) : Ct X yX0_drawNumber cX0_drawNumber 1 (some .int) 0 [.ref b] h (some (.int (drwV (h g 1)))) (setg h g (upd (h g) 1 (drwZ (h g 1)))) := by
  refine ⟨rfl, ?_⟩
  refine g_aload_n dX0_drawNumber_0 rfl ?_
  refine g_aload_n dX0_drawNumber_1 rfl ?_
  refine g_getI dX0_drawNumber_2 fl_X0_24 hb.1 rfl ?_
  refine g_ldc dX0_drawNumber_5 lc_X0_118 ?_
  refine g_imul dX0_drawNumber_7 ?_
  refine g_sipush dX0_drawNumber_8 sp_12345 ?_
  refine g_iadd dX0_drawNumber_11 ?_
  refine g_putI dX0_drawNumber_12 fl_X0_24 fp_0_7 hb.1 rfl ?_
  refine g_aload_n dX0_drawNumber_15 rfl ?_
  refine g_getI dX0_drawNumber_16 fl_X0_24 hb.1 rfl ?_
  refine g_bipush dX0_drawNumber_19 bp_8 ?_
  refine g_iushr dX0_drawNumber_21 ?_
  exact g_ireturn dX0_drawNumber_22 (by simp [up_s, drwV, drwZ]) (up_setg _ _ _ _)

def bilS (m : Rw) : Nat → Int32
  | 0 => 0
  | n + 1 => bilS m n + gF m n 2
def srvS (m : Rw) : Nat → Int32
  | 0 => 0
  | n + 1 => srvS m n + dF m n 4
def aimS (m : Rw) : Nat → Int32
  | 0 => 0
  | n + 1 => aimS m n ||| 1 <<< (gF m n 1 &&& 31)
def ben2 (m : Rw) : Nat → Int32
  | 0 => 0
  | n + 1 => ben2 m n ||| gF m n 3
def crdS (m : Rw) : Nat → Int32
  | 0 => 0
  | n + 1 => if dF m n 5 = 1 then crdS m n else crdS m n ||| 1 <<< (nI n &&& 31)
def spoN (m : Rw) : Nat → Nat
  | 0 => 0
  | n + 1 => if m (88 + n) = -1 then spoN m n else spoN m n + 1
/-- who owes most of the first n, and what -/
def debG (m : Rw) : Nat → Int32 × Int32
  | 0 => (-1, -1)
  | n + 1 => if gF m n 2 ≤ (debG m n).2 then debG m n else (nI n, gF m n 2)
/-- of the first n behind a, how many are for another town than a -/
def parI (m : Rw) (a : Nat) : Nat → Nat
  | 0 => 0
  | n + 1 => if a < n ∧ ¬ gF m a 1 = gF m n 1 then parI m a n + 1 else parI m a n
def parO (m : Rw) (G : Nat) : Nat → Nat
  | 0 => 0
  | n + 1 => parO m G n + parI m n G
set_option maxRecDepth 100000 in
set_option maxHeartbeats 4000000 in
theorem l_X0_billSum {X : Sc} {h : Hp} {b g : Nat} (hb : InnAt b g) (hI : In (h g)) : ∀ k, k ≤ nG (h g) → Go X RX0 cX0_billSum 3 2 4 [.ref b, .int (bilS (h g) k), .int (nI k)] [] h (some (.int (bilS (h g) (nG (h g))))) h := by
  have hN := hI.nG.1
  refine loop_up (nG (h g)) ?_ ?_
  · refine g_iload_n dX0_billSum_4 rfl ?_
    refine g_aload_n dX0_billSum_5 rfl ?_
    refine g_getI dX0_billSum_6 fl_X0_37 hb.1 rfl ?_
    refine g_icmp_ge 27 dX0_billSum_9 (by decide) (fun c9 => ?_) (fun c9 => ?_)
    · refine g_iload_n dX0_billSum_27 rfl ?_
      exact g_ireturn dX0_billSum_28 rfl rfl
    · exact (lp_yes (hI.nG.2) (by omega) c9).elim
  · intro k hk ih
    refine g_iload_n dX0_billSum_4 rfl ?_
    refine g_aload_n dX0_billSum_5 rfl ?_
    refine g_getI dX0_billSum_6 fl_X0_37 hb.1 rfl ?_
    refine g_icmp_ge 27 dX0_billSum_9 (by decide) (fun c9 => ?_) (fun c9 => ?_)
    · exact (lp_no (hI.nG.2) (by omega) hk c9).elim
    · refine g_iload_n dX0_billSum_12 rfl ?_
      refine g_aload_n dX0_billSum_13 rfl ?_
      refine g_iload_n dX0_billSum_14 rfl ?_
      refine g_iconst dX0_billSum_15 ic_2 ?_
      refine g_callV2i (c_X0_guestFact (w := 2) hb (by omega) (by decide)) mi_X0_guestFact mv_X0_guestFact ml_X0_57 dX0_billSum_16 hb.1 rfl (by decide) (Nat.le_of_ble_eq_true rfl) (Nat.le_of_ble_eq_true rfl) ?_
      refine g_iadd dX0_billSum_19 ?_
      refine g_istore_n dX0_billSum_20 (by decide) rfl ?_
      refine g_iinc dX0_billSum_21 rfl (ii_n _) (by decide) rfl ?_
      refine g_goto 4 dX0_billSum_24 (by decide) ?_
      exact ih

set_option maxRecDepth 100000 in
set_option maxHeartbeats 4000000 in
theorem c_X0_billSum {X : Sc} {h : Hp} {b g : Nat} (hb : InnAt b g) (hI : In (h g)) : Ct X yX0_billSum cX0_billSum 3 (some .int) 2 [.ref b] h (some (.int (bilS (h g) (nG (h g))))) h := by
  refine ⟨rfl, ?_⟩
  refine g_iconst dX0_billSum_0 ic_0 ?_
  refine g_istore_n dX0_billSum_1 (by decide) rfl ?_
  refine g_iconst dX0_billSum_2 ic_0 ?_
  refine g_istore_n dX0_billSum_3 (by decide) rfl ?_
  exact l_X0_billSum hb hI 0 (Nat.zero_le _)

set_option maxRecDepth 100000 in
set_option maxHeartbeats 4000000 in
theorem l_X0_servedSum {X : Sc} {h : Hp} {b g : Nat} (hb : InnAt b g) (hI : In (h g)) : ∀ k, k ≤ nD (h g) → Go X RX0 cX0_servedSum 3 2 4 [.ref b, .int (srvS (h g) k), .int (nI k)] [] h (some (.int (srvS (h g) (nD (h g))))) h := by
  have hN := hI.nD.1
  refine loop_up (nD (h g)) ?_ ?_
  · refine g_iload_n dX0_servedSum_4 rfl ?_
    refine g_aload_n dX0_servedSum_5 rfl ?_
    refine g_getI dX0_servedSum_6 fl_X0_34 hb.1 rfl ?_
    refine g_icmp_ge 27 dX0_servedSum_9 (by decide) (fun c9 => ?_) (fun c9 => ?_)
    · refine g_iload_n dX0_servedSum_27 rfl ?_
      exact g_ireturn dX0_servedSum_28 rfl rfl
    · exact (lp_yes (hI.nD.2) (by omega) c9).elim
  · intro k hk ih
    refine g_iload_n dX0_servedSum_4 rfl ?_
    refine g_aload_n dX0_servedSum_5 rfl ?_
    refine g_getI dX0_servedSum_6 fl_X0_34 hb.1 rfl ?_
    refine g_icmp_ge 27 dX0_servedSum_9 (by decide) (fun c9 => ?_) (fun c9 => ?_)
    · exact (lp_no (hI.nD.2) (by omega) hk c9).elim
    · refine g_iload_n dX0_servedSum_12 rfl ?_
      refine g_aload_n dX0_servedSum_13 rfl ?_
      refine g_iload_n dX0_servedSum_14 rfl ?_
      refine g_iconst dX0_servedSum_15 ic_4 ?_
      refine g_callV2i (c_X0_dishFact (w := 4) hb (by omega) (by decide)) mi_X0_dishFact mv_X0_dishFact ml_X0_43 dX0_servedSum_16 hb.1 rfl (by decide) (Nat.le_of_ble_eq_true rfl) (Nat.le_of_ble_eq_true rfl) ?_
      refine g_iadd dX0_servedSum_19 ?_
      refine g_istore_n dX0_servedSum_20 (by decide) rfl ?_
      refine g_iinc dX0_servedSum_21 rfl (ii_n _) (by decide) rfl ?_
      refine g_goto 4 dX0_servedSum_24 (by decide) ?_
      exact ih

set_option maxRecDepth 100000 in
set_option maxHeartbeats 4000000 in
theorem c_X0_servedSum {X : Sc} {h : Hp} {b g : Nat} (hb : InnAt b g) (hI : In (h g)) : Ct X yX0_servedSum cX0_servedSum 3 (some .int) 2 [.ref b] h (some (.int (srvS (h g) (nD (h g))))) h := by
  refine ⟨rfl, ?_⟩
  refine g_iconst dX0_servedSum_0 ic_0 ?_
  refine g_istore_n dX0_servedSum_1 (by decide) rfl ?_
  refine g_iconst dX0_servedSum_2 ic_0 ?_
  refine g_istore_n dX0_servedSum_3 (by decide) rfl ?_
  exact l_X0_servedSum hb hI 0 (Nat.zero_le _)

set_option maxRecDepth 100000 in
set_option maxHeartbeats 4000000 in
theorem l_X0_townsAimedAt {X : Sc} {h : Hp} {b g : Nat} (hb : InnAt b g) (hI : In (h g)) : ∀ k, k ≤ nG (h g) → Go X RX0 cX0_townsAimedAt 3 2 4 [.ref b, .int (aimS (h g) k), .int (nI k)] [] h (some (.int (aimS (h g) (nG (h g))))) h := by
  have hN := hI.nG.1
  refine loop_up (nG (h g)) ?_ ?_
  · refine g_iload_n dX0_townsAimedAt_4 rfl ?_
    refine g_aload_n dX0_townsAimedAt_5 rfl ?_
    refine g_getI dX0_townsAimedAt_6 fl_X0_37 hb.1 rfl ?_
    refine g_icmp_ge 29 dX0_townsAimedAt_9 (by decide) (fun c9 => ?_) (fun c9 => ?_)
    · refine g_iload_n dX0_townsAimedAt_29 rfl ?_
      exact g_ireturn dX0_townsAimedAt_30 rfl rfl
    · exact (lp_yes (hI.nG.2) (by omega) c9).elim
  · intro k hk ih
    refine g_iload_n dX0_townsAimedAt_4 rfl ?_
    refine g_aload_n dX0_townsAimedAt_5 rfl ?_
    refine g_getI dX0_townsAimedAt_6 fl_X0_37 hb.1 rfl ?_
    refine g_icmp_ge 29 dX0_townsAimedAt_9 (by decide) (fun c9 => ?_) (fun c9 => ?_)
    · exact (lp_no (hI.nG.2) (by omega) hk c9).elim
    · refine g_iload_n dX0_townsAimedAt_12 rfl ?_
      refine g_iconst dX0_townsAimedAt_13 ic_1 ?_
      refine g_aload_n dX0_townsAimedAt_14 rfl ?_
      refine g_iload_n dX0_townsAimedAt_15 rfl ?_
      refine g_iconst dX0_townsAimedAt_16 ic_1 ?_
      refine g_callV2i (c_X0_guestFact (w := 1) hb (by omega) (by decide)) mi_X0_guestFact mv_X0_guestFact ml_X0_57 dX0_townsAimedAt_17 hb.1 rfl (by decide) (Nat.le_of_ble_eq_true rfl) (Nat.le_of_ble_eq_true rfl) ?_
      refine g_ishl dX0_townsAimedAt_20 ?_
      refine g_ior dX0_townsAimedAt_21 ?_
      refine g_istore_n dX0_townsAimedAt_22 (by decide) rfl ?_
      refine g_iinc dX0_townsAimedAt_23 rfl (ii_n _) (by decide) rfl ?_
      refine g_goto 4 dX0_townsAimedAt_26 (by decide) ?_
      exact ih

set_option maxRecDepth 100000 in
set_option maxHeartbeats 4000000 in
theorem c_X0_townsAimedAt {X : Sc} {h : Hp} {b g : Nat} (hb : InnAt b g) (hI : In (h g)) : Ct X yX0_townsAimedAt cX0_townsAimedAt 3 (some .int) 2 [.ref b] h (some (.int (aimS (h g) (nG (h g))))) h := by
  refine ⟨rfl, ?_⟩
  refine g_iconst dX0_townsAimedAt_0 ic_0 ?_
  refine g_istore_n dX0_townsAimedAt_1 (by decide) rfl ?_
  refine g_iconst dX0_townsAimedAt_2 ic_0 ?_
  refine g_istore_n dX0_townsAimedAt_3 (by decide) rfl ?_
  exact l_X0_townsAimedAt hb hI 0 (Nat.zero_le _)

set_option maxRecDepth 100000 in
set_option maxHeartbeats 4000000 in
theorem l_X0_townsBeenIn {X : Sc} {h : Hp} {b g : Nat} (hb : InnAt b g) (hI : In (h g)) : ∀ k, k ≤ nG (h g) → Go X RX0 cX0_townsBeenIn 3 2 4 [.ref b, .int (ben2 (h g) k), .int (nI k)] [] h (some (.int (ben2 (h g) (nG (h g))))) h := by
  have hN := hI.nG.1
  refine loop_up (nG (h g)) ?_ ?_
  · refine g_iload_n dX0_townsBeenIn_4 rfl ?_
    refine g_aload_n dX0_townsBeenIn_5 rfl ?_
    refine g_getI dX0_townsBeenIn_6 fl_X0_37 hb.1 rfl ?_
    refine g_icmp_ge 27 dX0_townsBeenIn_9 (by decide) (fun c9 => ?_) (fun c9 => ?_)
    · refine g_iload_n dX0_townsBeenIn_27 rfl ?_
      exact g_ireturn dX0_townsBeenIn_28 rfl rfl
    · exact (lp_yes (hI.nG.2) (by omega) c9).elim
  · intro k hk ih
    refine g_iload_n dX0_townsBeenIn_4 rfl ?_
    refine g_aload_n dX0_townsBeenIn_5 rfl ?_
    refine g_getI dX0_townsBeenIn_6 fl_X0_37 hb.1 rfl ?_
    refine g_icmp_ge 27 dX0_townsBeenIn_9 (by decide) (fun c9 => ?_) (fun c9 => ?_)
    · exact (lp_no (hI.nG.2) (by omega) hk c9).elim
    · refine g_iload_n dX0_townsBeenIn_12 rfl ?_
      refine g_aload_n dX0_townsBeenIn_13 rfl ?_
      refine g_iload_n dX0_townsBeenIn_14 rfl ?_
      refine g_iconst dX0_townsBeenIn_15 ic_3 ?_
      refine g_callV2i (c_X0_guestFact (w := 3) hb (by omega) (by decide)) mi_X0_guestFact mv_X0_guestFact ml_X0_57 dX0_townsBeenIn_16 hb.1 rfl (by decide) (Nat.le_of_ble_eq_true rfl) (Nat.le_of_ble_eq_true rfl) ?_
      refine g_ior dX0_townsBeenIn_19 ?_
      refine g_istore_n dX0_townsBeenIn_20 (by decide) rfl ?_
      refine g_iinc dX0_townsBeenIn_21 rfl (ii_n _) (by decide) rfl ?_
      refine g_goto 4 dX0_townsBeenIn_24 (by decide) ?_
      exact ih

set_option maxRecDepth 100000 in
set_option maxHeartbeats 4000000 in
theorem c_X0_townsBeenIn {X : Sc} {h : Hp} {b g : Nat} (hb : InnAt b g) (hI : In (h g)) : Ct X yX0_townsBeenIn cX0_townsBeenIn 3 (some .int) 2 [.ref b] h (some (.int (ben2 (h g) (nG (h g))))) h := by
  refine ⟨rfl, ?_⟩
  refine g_iconst dX0_townsBeenIn_0 ic_0 ?_
  refine g_istore_n dX0_townsBeenIn_1 (by decide) rfl ?_
  refine g_iconst dX0_townsBeenIn_2 ic_0 ?_
  refine g_istore_n dX0_townsBeenIn_3 (by decide) rfl ?_
  exact l_X0_townsBeenIn hb hI 0 (Nat.zero_le _)

set_option maxRecDepth 100000 in
set_option maxHeartbeats 4000000 in
theorem l_X0_dishesOnCard {X : Sc} {h : Hp} {b g : Nat} (hb : InnAt b g) (hI : In (h g)) : ∀ k, k ≤ nD (h g) → Go X RX0 cX0_dishesOnCard 3 2 4 [.ref b, .int (crdS (h g) k), .int (nI k)] [] h (some (.int (crdS (h g) (nD (h g))))) h := by
  have hN := hI.nD.1
  refine loop_up (nD (h g)) ?_ ?_
  · refine g_iload_n dX0_dishesOnCard_4 rfl ?_
    refine g_aload_n dX0_dishesOnCard_5 rfl ?_
    refine g_getI dX0_dishesOnCard_6 fl_X0_34 hb.1 rfl ?_
    refine g_icmp_ge 32 dX0_dishesOnCard_9 (by decide) (fun c9 => ?_) (fun c9 => ?_)
    · refine g_iload_n dX0_dishesOnCard_32 rfl ?_
      exact g_ireturn dX0_dishesOnCard_33 rfl rfl
    · exact (lp_yes (hI.nD.2) (by omega) c9).elim
  · intro k hk ih
    refine g_iload_n dX0_dishesOnCard_4 rfl ?_
    refine g_aload_n dX0_dishesOnCard_5 rfl ?_
    refine g_getI dX0_dishesOnCard_6 fl_X0_34 hb.1 rfl ?_
    refine g_icmp_ge 32 dX0_dishesOnCard_9 (by decide) (fun c9 => ?_) (fun c9 => ?_)
    · exact (lp_no (hI.nD.2) (by omega) hk c9).elim
    · refine g_aload_n dX0_dishesOnCard_12 rfl ?_
      refine g_iload_n dX0_dishesOnCard_13 rfl ?_
      refine g_callV1i (c_X0_isOff hb (by omega)) mi_X0_isOff mv_X0_isOff ml_X0_109 dX0_dishesOnCard_14 hb.1 rfl (by decide) (Nat.le_of_ble_eq_true rfl) (Nat.le_of_ble_eq_true rfl) ?_
      refine g_if_ne 26 dX0_dishesOnCard_17 (by decide) (fun c17 => ?_) (fun c17 => ?_)
      · refine g_iinc dX0_dishesOnCard_26 rfl (ii_n _) (by decide) rfl ?_
        refine g_goto 4 dX0_dishesOnCard_29 (by decide) ?_
        first
        | exact g_lv (by simp_all [crdS, bI]) ih
        | exact g_lv (by simp_all [crdS, bI_0]) ih
      · refine g_iload_n dX0_dishesOnCard_20 rfl ?_
        refine g_iconst dX0_dishesOnCard_21 ic_1 ?_
        refine g_iload_n dX0_dishesOnCard_22 rfl ?_
        refine g_ishl dX0_dishesOnCard_23 ?_
        refine g_ior dX0_dishesOnCard_24 ?_
        refine g_istore_n dX0_dishesOnCard_25 (by decide) rfl ?_
        refine g_iinc dX0_dishesOnCard_26 rfl (ii_n _) (by decide) rfl ?_
        refine g_goto 4 dX0_dishesOnCard_29 (by decide) ?_
        first
        | exact g_lv (by simp_all [crdS, bI]) ih
        | exact g_lv (by simp_all [crdS, bI_0]) ih

set_option maxRecDepth 100000 in
set_option maxHeartbeats 4000000 in
theorem c_X0_dishesOnCard {X : Sc} {h : Hp} {b g : Nat} (hb : InnAt b g) (hI : In (h g)) : Ct X yX0_dishesOnCard cX0_dishesOnCard 3 (some .int) 2 [.ref b] h (some (.int (crdS (h g) (nD (h g))))) h := by
  refine ⟨rfl, ?_⟩
  refine g_iconst dX0_dishesOnCard_0 ic_0 ?_
  refine g_istore_n dX0_dishesOnCard_1 (by decide) rfl ?_
  refine g_iconst dX0_dishesOnCard_2 ic_0 ?_
  refine g_istore_n dX0_dishesOnCard_3 (by decide) rfl ?_
  exact l_X0_dishesOnCard hb hI 0 (Nat.zero_le _)

set_option maxRecDepth 100000 in
set_option maxHeartbeats 4000000 in
theorem l_X0_spotsInUse {X : Sc} {h : Hp} {b g : Nat} (hb : InnAt b g) : ∀ k, k ≤ 10 → Go X RX0 cX0_spotsInUse 3 0 4 [.ref b, .int (nI (spoN (h g) k)), .int (nI k)] [] h (some (.int (nI (spoN (h g) 10)))) h := by
  refine loop_up (10) ?_ ?_
  · refine g_iload_n dX0_spotsInUse_4 rfl ?_
    refine g_bipush dX0_spotsInUse_5 bp_10 ?_
    refine g_icmp_ge 29 dX0_spotsInUse_7 (by decide) (fun c7 => ?_) (fun c7 => ?_)
    · refine g_iload_n dX0_spotsInUse_29 rfl ?_
      exact g_ireturn dX0_spotsInUse_30 rfl rfl
    · exact (lp_yes ((rfl : (10 : Int32) = nI 10)) (by decide) c7).elim
  · intro k hk ih
    refine g_iload_n dX0_spotsInUse_4 rfl ?_
    refine g_bipush dX0_spotsInUse_5 bp_10 ?_
    refine g_icmp_ge 29 dX0_spotsInUse_7 (by decide) (fun c7 => ?_) (fun c7 => ?_)
    · exact (lp_no ((rfl : (10 : Int32) = nI 10)) (by decide) hk c7).elim
    · refine g_aload_n dX0_spotsInUse_10 rfl ?_
      refine g_getR dX0_spotsInUse_11 fl_X0_21 hb.1 rfl ?_
      refine g_iload_n dX0_spotsInUse_14 rfl ?_
      refine g_iald k dX0_spotsInUse_15 hb.2.2.2.2 rfl hk ?_
      refine g_iconst dX0_spotsInUse_16 ic_m1 ?_
      refine g_icmp_eq 23 dX0_spotsInUse_17 (by decide) (fun c17 => ?_) (fun c17 => ?_)
      · refine g_iinc dX0_spotsInUse_23 rfl (ii_n _) (by decide) rfl ?_
        refine g_goto 4 dX0_spotsInUse_26 (by decide) ?_
        first
        | exact g_lv (by rw [spoN, if_pos c17]; rfl) ih
        | exact g_lv (by rw [spoN, if_neg c17]; rfl) ih
      · refine g_iinc dX0_spotsInUse_20 rfl (ii_n _) (by decide) rfl ?_
        refine g_iinc dX0_spotsInUse_23 rfl (ii_n _) (by decide) rfl ?_
        refine g_goto 4 dX0_spotsInUse_26 (by decide) ?_
        first
        | exact g_lv (by rw [spoN, if_pos c17]; rfl) ih
        | exact g_lv (by rw [spoN, if_neg c17]; rfl) ih

set_option maxRecDepth 100000 in
set_option maxHeartbeats 4000000 in
theorem c_X0_spotsInUse {X : Sc} {h : Hp} {b g : Nat} (hb : InnAt b g) : Ct X yX0_spotsInUse cX0_spotsInUse 3 (some .int) 0 [.ref b] h (some (.int (nI (spoN (h g) 10)))) h := by
  refine ⟨rfl, ?_⟩
  refine g_iconst dX0_spotsInUse_0 ic_0 ?_
  refine g_istore_n dX0_spotsInUse_1 (by decide) rfl ?_
  refine g_iconst dX0_spotsInUse_2 ic_0 ?_
  refine g_istore_n dX0_spotsInUse_3 (by decide) rfl ?_
  exact l_X0_spotsInUse hb 0 (by decide)

set_option maxRecDepth 100000 in
set_option maxHeartbeats 4000000 in
theorem l_X0_deepestInDebt {X : Sc} {h : Hp} {b g : Nat} (hb : InnAt b g) (hI : In (h g)) : ∀ k, k ≤ nG (h g) → Go X RX0 cX0_deepestInDebt 4 1 6 [.ref b, .int (debG (h g) k).1, .int (debG (h g) k).2, .int (nI k)] [] h (some (.int (debG (h g) (nG (h g))).1)) h := by
  have hN := hI.nG.1
  refine loop_up (nG (h g)) ?_ ?_
  · refine g_iload_n dX0_deepestInDebt_6 rfl ?_
    refine g_aload_n dX0_deepestInDebt_7 rfl ?_
    refine g_getI dX0_deepestInDebt_8 fl_X0_37 hb.1 rfl ?_
    refine g_icmp_ge 39 dX0_deepestInDebt_11 (by decide) (fun c11 => ?_) (fun c11 => ?_)
    · refine g_iload_n dX0_deepestInDebt_39 rfl ?_
      exact g_ireturn dX0_deepestInDebt_40 rfl rfl
    · exact (lp_yes (hI.nG.2) (by omega) c11).elim
  · intro k hk ih
    refine g_iload_n dX0_deepestInDebt_6 rfl ?_
    refine g_aload_n dX0_deepestInDebt_7 rfl ?_
    refine g_getI dX0_deepestInDebt_8 fl_X0_37 hb.1 rfl ?_
    refine g_icmp_ge 39 dX0_deepestInDebt_11 (by decide) (fun c11 => ?_) (fun c11 => ?_)
    · exact (lp_no (hI.nG.2) (by omega) hk c11).elim
    · refine g_aload_n dX0_deepestInDebt_14 rfl ?_
      refine g_iload_n dX0_deepestInDebt_15 rfl ?_
      refine g_iconst dX0_deepestInDebt_16 ic_2 ?_
      refine g_callV2i (c_X0_guestFact (w := 2) hb (by omega) (by decide)) mi_X0_guestFact mv_X0_guestFact ml_X0_57 dX0_deepestInDebt_17 hb.1 rfl (by decide) (Nat.le_of_ble_eq_true rfl) (Nat.le_of_ble_eq_true rfl) ?_
      refine g_iload_n dX0_deepestInDebt_20 rfl ?_
      refine g_icmp_le 33 dX0_deepestInDebt_21 (by decide) (fun c21 => ?_) (fun c21 => ?_)
      · refine g_iinc dX0_deepestInDebt_33 rfl (ii_n _) (by decide) rfl ?_
        refine g_goto 6 dX0_deepestInDebt_36 (by decide) ?_
        first
        | exact g_lv (by rw [debG, if_pos c21]; rfl) ih
        | exact g_lv (by rw [debG, if_neg c21]; rfl) ih
      · refine g_aload_n dX0_deepestInDebt_24 rfl ?_
        refine g_iload_n dX0_deepestInDebt_25 rfl ?_
        refine g_iconst dX0_deepestInDebt_26 ic_2 ?_
        refine g_callV2i (c_X0_guestFact (w := 2) hb (by omega) (by decide)) mi_X0_guestFact mv_X0_guestFact ml_X0_57 dX0_deepestInDebt_27 hb.1 rfl (by decide) (Nat.le_of_ble_eq_true rfl) (Nat.le_of_ble_eq_true rfl) ?_
        refine g_istore_n dX0_deepestInDebt_30 (by decide) rfl ?_
        refine g_iload_n dX0_deepestInDebt_31 rfl ?_
        refine g_istore_n dX0_deepestInDebt_32 (by decide) rfl ?_
        refine g_iinc dX0_deepestInDebt_33 rfl (ii_n _) (by decide) rfl ?_
        refine g_goto 6 dX0_deepestInDebt_36 (by decide) ?_
        first
        | exact g_lv (by rw [debG, if_pos c21]; rfl) ih
        | exact g_lv (by rw [debG, if_neg c21]; rfl) ih

set_option maxRecDepth 100000 in
set_option maxHeartbeats 4000000 in
theorem c_X0_deepestInDebt {X : Sc} {h : Hp} {b g : Nat} (hb : InnAt b g) (hI : In (h g)) : Ct X yX0_deepestInDebt cX0_deepestInDebt 4 (some .int) 1 [.ref b] h (some (.int (debG (h g) (nG (h g))).1)) h := by
  refine ⟨rfl, ?_⟩
  refine g_iconst dX0_deepestInDebt_0 ic_m1 ?_
  refine g_istore_n dX0_deepestInDebt_1 (by decide) rfl ?_
  refine g_iconst dX0_deepestInDebt_2 ic_m1 ?_
  refine g_istore_n dX0_deepestInDebt_3 (by decide) rfl ?_
  refine g_iconst dX0_deepestInDebt_4 ic_0 ?_
  refine g_istore_n dX0_deepestInDebt_5 (by decide) rfl ?_
  exact l_X0_deepestInDebt hb hI 0 (Nat.zero_le _)
end
section
/-! THE INN: pairs, copies, kinds -/
theorem parI_0 (m : Rw) (a : Nat) : ∀ n, n ≤ a + 1 → parI m a n = 0
  | 0, _ => rfl
  | n + 1, h => by
    unfold parI
    rw [if_neg (by omega)]
    exact parI_0 m a n (by omega)
set_option maxRecDepth 100000 in
set_option maxHeartbeats 4000000 in
theorem i_X0_partedPairs {X : Sc} {h : Hp} {b g : Nat} (hb : InnAt b g) (hI : In (h g)) {a p0 : Nat} (ha : a < nG (h g)) {r : Option Value} (K : Go X RX0 cX0_partedPairs 4 1 48 [.ref b, .int (nI (p0 + parI (h g) a (nG (h g)))), .int (nI a), .int (nI (nG (h g)))] [] h r h) : ∀ k, k ≤ nG (h g) → a < k → Go X RX0 cX0_partedPairs 4 1 16 [.ref b, .int (nI (p0 + parI (h g) a k)), .int (nI a), .int (nI k)] [] h r h := by
  have hN := hI.nG.1
  refine loop_up (nG (h g)) ?_ ?_
  · intro hy
    refine g_iload_n dX0_partedPairs_16 rfl ?_
    refine g_aload_n dX0_partedPairs_17 rfl ?_
    refine g_getI dX0_partedPairs_18 fl_X0_37 hb.1 rfl ?_
    refine g_icmp_ge 48 dX0_partedPairs_21 (by decide) (fun c21 => ?_) (fun c21 => ?_)
    · exact K
    · exact (lp_yes (hI.nG.2) (by omega) c21).elim
  · intro k hk ih hy
    refine g_iload_n dX0_partedPairs_16 rfl ?_
    refine g_aload_n dX0_partedPairs_17 rfl ?_
    refine g_getI dX0_partedPairs_18 fl_X0_37 hb.1 rfl ?_
    refine g_icmp_ge 48 dX0_partedPairs_21 (by decide) (fun c21 => ?_) (fun c21 => ?_)
    · exact (lp_no (hI.nG.2) (by omega) hk c21).elim
    · refine g_aload_n dX0_partedPairs_24 rfl ?_
      refine g_iload_n dX0_partedPairs_25 rfl ?_
      refine g_iconst dX0_partedPairs_26 ic_1 ?_
      first
      | refine g_callV2i (c_X0_guestFact (e := a) (w := 1) hb (by omega) (by decide)) mi_X0_guestFact mv_X0_guestFact ml_X0_57 dX0_partedPairs_27 hb.1 rfl (by decide) (Nat.le_of_ble_eq_true rfl) (Nat.le_of_ble_eq_true rfl) ?_
      | refine g_callV2i (c_X0_guestFact (e := k) (w := 1) hb (by omega) (by decide)) mi_X0_guestFact mv_X0_guestFact ml_X0_57 dX0_partedPairs_27 hb.1 rfl (by decide) (Nat.le_of_ble_eq_true rfl) (Nat.le_of_ble_eq_true rfl) ?_
      refine g_aload_n dX0_partedPairs_30 rfl ?_
      refine g_iload_n dX0_partedPairs_31 rfl ?_
      refine g_iconst dX0_partedPairs_32 ic_1 ?_
      first
      | refine g_callV2i (c_X0_guestFact (e := a) (w := 1) hb (by omega) (by decide)) mi_X0_guestFact mv_X0_guestFact ml_X0_57 dX0_partedPairs_33 hb.1 rfl (by decide) (Nat.le_of_ble_eq_true rfl) (Nat.le_of_ble_eq_true rfl) ?_
      | refine g_callV2i (c_X0_guestFact (e := k) (w := 1) hb (by omega) (by decide)) mi_X0_guestFact mv_X0_guestFact ml_X0_57 dX0_partedPairs_33 hb.1 rfl (by decide) (Nat.le_of_ble_eq_true rfl) (Nat.le_of_ble_eq_true rfl) ?_
      refine g_icmp_eq 42 dX0_partedPairs_36 (by decide) (fun c36 => ?_) (fun c36 => ?_)
      · refine g_iinc dX0_partedPairs_42 rfl (ii_n _) (by decide) rfl ?_
        refine g_goto 16 dX0_partedPairs_45 (by decide) ?_
        exact g_lv (by first | (rw [parI, if_neg (fun q => q.2 c36)]; rfl) | (rw [parI, if_pos ⟨hy, c36⟩]; rfl)) (ih (by omega))
      · refine g_iinc dX0_partedPairs_39 rfl (ii_n _) (by decide) rfl ?_
        refine g_iinc dX0_partedPairs_42 rfl (ii_n _) (by decide) rfl ?_
        refine g_goto 16 dX0_partedPairs_45 (by decide) ?_
        exact g_lv (by first | (rw [parI, if_neg (fun q => q.2 c36)]; rfl) | (rw [parI, if_pos ⟨hy, c36⟩]; rfl)) (ih (by omega))

set_option maxRecDepth 100000 in
set_option maxHeartbeats 4000000 in
theorem l_X0_partedPairs {X : Sc} {h : Hp} {b g : Nat} (hb : InnAt b g) (hI : In (h g)) : ∀ k, k ≤ nG (h g) → Go X RX0 cX0_partedPairs 4 1 4 [.ref b, .int (nI (parO (h g) (nG (h g)) k)), .int (nI k), .null] [] h (some (.int (nI (parO (h g) (nG (h g)) (nG (h g)))))) h := by
  have hN := hI.nG.1
  refine loop_up (nG (h g)) ?_ ?_
  · refine g_iload_n dX0_partedPairs_4 rfl ?_
    refine g_aload_n dX0_partedPairs_5 rfl ?_
    refine g_getI dX0_partedPairs_6 fl_X0_37 hb.1 rfl ?_
    refine g_icmp_ge 54 dX0_partedPairs_9 (by decide) (fun c9 => ?_) (fun c9 => ?_)
    · refine g_iload_n dX0_partedPairs_54 rfl ?_
      exact g_ireturn dX0_partedPairs_55 rfl rfl
    · exact (lp_yes (hI.nG.2) (by omega) c9).elim
  · intro k hk ih
    refine g_iload_n dX0_partedPairs_4 rfl ?_
    refine g_aload_n dX0_partedPairs_5 rfl ?_
    refine g_getI dX0_partedPairs_6 fl_X0_37 hb.1 rfl ?_
    refine g_icmp_ge 54 dX0_partedPairs_9 (by decide) (fun c9 => ?_) (fun c9 => ?_)
    · exact (lp_no (hI.nG.2) (by omega) hk c9).elim
    · refine g_iload_n dX0_partedPairs_12 rfl ?_
      refine g_iconst dX0_partedPairs_13 ic_1 ?_
      refine g_iadd dX0_partedPairs_14 ?_
      refine g_istore_n dX0_partedPairs_15 (by decide) rfl ?_
      refine g_lv (by rw [nI_1]) (i_X0_partedPairs (p0 := parO (h g) (nG (h g)) k) hb hI hk ?_ (k + 1) (by omega) (by omega) |> fun q => by rw [parI_0 _ _ _ (Nat.le_refl _)] at q; exact q)
      refine g_iinc dX0_partedPairs_48 rfl (ii_n _) (by decide) rfl ?_
      refine g_goto 4 dX0_partedPairs_51 (by decide) ?_
      refine g_mask [true, true, true, false] ?_
      exact ih

set_option maxRecDepth 100000 in
set_option maxHeartbeats 4000000 in
theorem c_X0_partedPairs {X : Sc} {h : Hp} {b g : Nat} (hb : InnAt b g) (hI : In (h g)) : Ct X yX0_partedPairs cX0_partedPairs 4 (some .int) 1 [.ref b] h (some (.int (nI (parO (h g) (nG (h g)) (nG (h g)))))) h := by
  refine ⟨rfl, ?_⟩
  refine g_iconst dX0_partedPairs_0 ic_0 ?_
  refine g_istore_n dX0_partedPairs_1 (by decide) rfl ?_
  refine g_iconst dX0_partedPairs_2 ic_0 ?_
  refine g_istore_n dX0_partedPairs_3 (by decide) rfl ?_
  exact l_X0_partedPairs hb hI 0 (Nat.zero_le _)

/-- a group that is a row -/
def rowB (g : Nat) : Bool := (List.elem g [1, 2, 3, 11, 12, 13])
def shpRow : Bool := shp.all fun s => (occ s).all fun q => !rowB q.1 || Nat.ble (q.2.1 + q.2.2) 98
theorem shpRow_ok : shpRow = true := by decide +kernel
theorem heq_row {h1 h2 : Hp} {g : Nat} (hg : rowB g = true) (ho : ∀ a, a ≠ g → h1 a = h2 a) (hk : ∀ k, k < 98 → h1 g k = h2 g k) : heq h1 h2 := by
  intro i s hi a k ⟨q, hq, q1, q2, q3⟩
  by_cases e : a = g
  · subst e
    refine hk k ?_
    have h3 := List.all_eq_true.mp (List.all_eq_true.mp shpRow_ok s (List.mem_of_getElem? hi)) q hq
    rw [q1, hg] at h3
    have := Nat.le_of_ble_eq_true (by simpa using h3)
    omega
  · rw [ho a e]
theorem cpy_in (h : Hp) {gs so gd dO n k : Nat} (h1 : dO ≤ k) (h2 : k < dO + n) : cpy h gs so gd dO n gd k = h gs (so + (k - dO)) := by
  unfold cpy; rw [if_pos ⟨rfl, h1, h2⟩]
theorem cpy_no (h : Hp) {gs so gd dO n a k : Nat} (h1 : ¬ (a = gd ∧ dO ≤ k ∧ k < dO + n)) : cpy h gs so gd dO n a k = h a k := by
  unfold cpy; rw [if_neg h1]
theorem become_row (h : Hp) {g g2 : Nat} (n : g2 ≠ g) (C : Hp) (eC : C = cpy (cpy (cpy (cpy h g2 (4 + 0) g (4 + 0) 6) g2 (10 + 0) g (10 + 0) 48) g2 (58 + 0) g (58 + 0) 30) g2 (88 + 0) g (88 + 0) 10) (F : Hp) (eF : F = up (up (up (up C g 2 (C g2 2)) g 3 (C g2 3)) g 0 (C g2 0)) g 1 (C g2 1)) (hg : rowB g = true) : heq F (setg h g (h g2)) := by
  have hC : ∀ a, a ≠ g → ∀ k, C a k = h a k := by
    intro a ha k
    rw [eC, cpy_no _ (fun q => ha q.1), cpy_no _ (fun q => ha q.1), cpy_no _ (fun q => ha q.1), cpy_no _ (fun q => ha q.1)]
  refine heq_row hg (fun a ha => ?_) (fun k hk => ?_)
  · rw [setg_n _ _ ha]
    funext k
    rw [eF, up_n _ _ (fun q => ha q.1), up_n _ _ (fun q => ha q.1), up_n _ _ (fun q => ha q.1), up_n _ _ (fun q => ha q.1), hC a ha]
  · rw [setg_s, eF]
    by_cases k1 : k = 1
    · subst k1; rw [up_s, hC g2 n]
    · rw [up_n _ _ (fun q => k1 q.2)]
      by_cases k0 : k = 0
      · subst k0; rw [up_s, hC g2 n]
      · rw [up_n _ _ (fun q => k0 q.2)]
        by_cases k3 : k = 3
        · subst k3; rw [up_s, hC g2 n]
        · rw [up_n _ _ (fun q => k3 q.2)]
          by_cases k2 : k = 2
          · subst k2; rw [up_s, hC g2 n]
          · rw [up_n _ _ (fun q => k2 q.2), eC]
            by_cases h4 : 88 ≤ k
            · rw [cpy_in _ (by omega) (by omega), cpy_no _ (fun q => n q.1), cpy_no _ (fun q => n q.1), cpy_no _ (fun q => n q.1), show 88 + 0 + (k - (88 + 0)) = k by omega]
            · rw [cpy_no _ (by omega)]
              by_cases h3 : 58 ≤ k
              · rw [cpy_in _ (by omega) (by omega), cpy_no _ (fun q => n q.1), cpy_no _ (fun q => n q.1), show 58 + 0 + (k - (58 + 0)) = k by omega]
              · rw [cpy_no _ (by omega)]
                by_cases h2 : 10 ≤ k
                · rw [cpy_in _ (by omega) (by omega), cpy_no _ (fun q => n q.1), show 10 + 0 + (k - (10 + 0)) = k by omega]
                · rw [cpy_no _ (by omega), cpy_in _ (by omega) (by omega), show 4 + 0 + (k - (4 + 0)) = k by omega]
set_option maxRecDepth 100000 in
set_option maxHeartbeats 4000000 in
theorem c0_X0_become {X : Sc} {h : Hp} {b g b2 g2 : Nat} (hb : InnAt b g) (hb2 : InnAt b2 g2) (C : Hp) (eC : C = cpy (cpy (cpy (cpy h g2 (4 + 0) g (4 + 0) 6) g2 (10 + 0) g (10 + 0) 48) g2 (58 + 0) g (58 + 0) 30) g2 (88 + 0) g (88 + 0) 10) (hn : g2 ≠ g) : Ct X yX0_become cX0_become 2 none 1 [.ref b, .ref b2] h none (up (up (up (up C g 2 (C g2 2)) g 3 (C g2 3)) g 0 (C g2 0)) g 1 (C g2 1)) := by
  refine ⟨trivial, ?_⟩
  refine g_aload_n dX0_become_0 rfl ?_
  refine g_getR dX0_become_1 fl_X0_11 hb2.1 rfl ?_
  refine g_iconst dX0_become_4 ic_0 ?_
  refine g_aload_n dX0_become_5 rfl ?_
  refine g_getR dX0_become_6 fl_X0_11 hb.1 rfl ?_
  refine g_iconst dX0_become_9 ic_0 ?_
  refine g_bipush dX0_become_10 bp_6 ?_
  refine g_copy 0 0 6 dX0_become_12 hb2.2.1 hb.2.1 rfl rfl rfl (by decide) (by decide) ml_X0_28 acN acS acI (by decide) (Nat.le_of_ble_eq_true rfl) ?_
  refine g_aload_n dX0_become_15 rfl ?_
  refine g_getR dX0_become_16 fl_X0_15 hb2.1 rfl ?_
  refine g_iconst dX0_become_19 ic_0 ?_
  refine g_aload_n dX0_become_20 rfl ?_
  refine g_getR dX0_become_21 fl_X0_15 hb.1 rfl ?_
  refine g_iconst dX0_become_24 ic_0 ?_
  refine g_bipush dX0_become_25 bp_48 ?_
  refine g_copy 0 0 48 dX0_become_27 hb2.2.2.1 hb.2.2.1 rfl rfl rfl (by decide) (by decide) ml_X0_28 acN acS acI (by decide) (Nat.le_of_ble_eq_true rfl) ?_
  refine g_aload_n dX0_become_30 rfl ?_
  refine g_getR dX0_become_31 fl_X0_18 hb2.1 rfl ?_
  refine g_iconst dX0_become_34 ic_0 ?_
  refine g_aload_n dX0_become_35 rfl ?_
  refine g_getR dX0_become_36 fl_X0_18 hb.1 rfl ?_
  refine g_iconst dX0_become_39 ic_0 ?_
  refine g_bipush dX0_become_40 bp_30 ?_
  refine g_copy 0 0 30 dX0_become_42 hb2.2.2.2.1 hb.2.2.2.1 rfl rfl rfl (by decide) (by decide) ml_X0_28 acN acS acI (by decide) (Nat.le_of_ble_eq_true rfl) ?_
  refine g_aload_n dX0_become_45 rfl ?_
  refine g_getR dX0_become_46 fl_X0_21 hb2.1 rfl ?_
  refine g_iconst dX0_become_49 ic_0 ?_
  refine g_aload_n dX0_become_50 rfl ?_
  refine g_getR dX0_become_51 fl_X0_21 hb.1 rfl ?_
  refine g_iconst dX0_become_54 ic_0 ?_
  refine g_bipush dX0_become_55 bp_10 ?_
  refine g_copy 0 0 10 dX0_become_57 hb2.2.2.2.2 hb.2.2.2.2 rfl rfl rfl (by decide) (by decide) ml_X0_28 acN acS acI (by decide) (Nat.le_of_ble_eq_true rfl) ?_
  refine g_aload_n dX0_become_60 rfl ?_
  refine g_aload_n dX0_become_61 rfl ?_
  refine g_getI dX0_become_62 fl_X0_34 hb2.1 rfl ?_
  refine g_putI dX0_become_65 fl_X0_34 fp_0_4 hb.1 rfl ?_
  refine g_aload_n dX0_become_68 rfl ?_
  refine g_aload_n dX0_become_69 rfl ?_
  refine g_getI dX0_become_70 fl_X0_37 hb2.1 rfl ?_
  refine g_putI dX0_become_73 fl_X0_37 fp_0_5 hb.1 rfl ?_
  refine g_aload_n dX0_become_76 rfl ?_
  refine g_aload_n dX0_become_77 rfl ?_
  refine g_getI dX0_become_78 fl_X0_40 hb2.1 rfl ?_
  refine g_putI dX0_become_81 fl_X0_40 fp_0_6 hb.1 rfl ?_
  refine g_aload_n dX0_become_84 rfl ?_
  refine g_aload_n dX0_become_85 rfl ?_
  refine g_getI dX0_become_86 fl_X0_24 hb2.1 rfl ?_
  refine g_putI dX0_become_89 fl_X0_24 fp_0_7 hb.1 rfl ?_
  exact g_return dX0_become_92 rfl (by rw [← eC, up_n _ _ (fun q => hn q.1), up_n _ _ (fun q => hn q.1), up_n _ _ (fun q => hn q.1), up_n _ _ (fun q => hn q.1), up_n _ _ (fun q => hn q.1), up_n _ _ (fun q => hn q.1)])

theorem c_X0_become {X : Sc} {h : Hp} {b g b2 g2 : Nat} (hb : InnAt b g) (hb2 : InnAt b2 g2) (hn : g2 ≠ g) (hg : rowB g = true) : Ct X yX0_become cX0_become 2 none 1 [.ref b, .ref b2] h none (setg h g (h g2)) :=
  (c0_X0_become hb hb2 _ rfl hn).heq (become_row h hn _ rfl _ rfl hg)
/-- whether a kind is another one, or stands under it -/
def und (k o : Int32) : Bool := decide (o = 0) || decide (o = k) || (decide (o = 2) && (decide (k = 3) || decide (k = 4))) || (decide (o = 3) && decide (k = 4)) || (decide (o = 1) && decide (k = 6))
set_option maxRecDepth 100000 in
set_option maxHeartbeats 4000000 in
theorem lk_um1 {X : Sc} {h : Hp} {s : Nat} (hs : s + 0 ≤ 6) {kd o : Int32} : Go X RX0 cX0_isUnder 4 0 4 [.int kd, .int o, .int (-1), .int (nI s)] [] h (some (.int (bI false))) h := by
  refine g_iload_n dX0_isUnder_4 rfl ?_
  refine g_bipush dX0_isUnder_5 bp_7 ?_
  refine g_icmp_ge 33 dX0_isUnder_7 (by decide) (fun c7 => ?_) (fun c7 => ?_)
  · exact absurd c7 (nI_ge (a := s) (b := 7) (by omega) (by decide))
  · refine g_iload_n dX0_isUnder_10 rfl ?_
    refine g_if_lt 33 dX0_isUnder_11 (by decide) (fun c11 => ?_) (fun c11 => ?_)
    · refine g_iconst dX0_isUnder_33 ic_0 ?_
      exact g_ireturn dX0_isUnder_34 rfl rfl
    · exact absurd (by decide) c11

set_option maxRecDepth 100000 in
set_option maxHeartbeats 4000000 in
theorem lk_u0 {X : Sc} {h : Hp} {s : Nat} (hs : s + 1 ≤ 6) {kd o : Int32} : Go X RX0 cX0_isUnder 4 0 4 [.int kd, .int o, .int (0), .int (nI s)] [] h (some (.int (bI (decide (o = 0) || false)))) h := by
  refine g_iload_n dX0_isUnder_4 rfl ?_
  refine g_bipush dX0_isUnder_5 bp_7 ?_
  refine g_icmp_ge 33 dX0_isUnder_7 (by decide) (fun c7 => ?_) (fun c7 => ?_)
  · exact absurd c7 (nI_ge (a := s) (b := 7) (by omega) (by decide))
  · refine g_iload_n dX0_isUnder_10 rfl ?_
    refine g_if_lt 33 dX0_isUnder_11 (by decide) (fun c11 => ?_) (fun c11 => ?_)
    · exact absurd c11 (by decide)
    · refine g_iload_n dX0_isUnder_14 rfl ?_
      refine g_iload_n dX0_isUnder_15 rfl ?_
      refine g_icmp_ne 21 dX0_isUnder_16 (by decide) (fun c16 => ?_) (fun c16 => ?_)
      · refine g_gets (i := 100) dX0_isUnder_21 ro0 fs_X0_54 ?_
        refine g_iload_n dX0_isUnder_24 rfl ?_
        refine g_ildr (l0 := kndAbove) 0 dX0_isUnder_25 ro0 rfl (by decide) (by decide) ?_
        refine g_istore_n dX0_isUnder_26 (by decide) rfl ?_
        refine g_iinc dX0_isUnder_27 rfl (ii_n _) (by decide) rfl ?_
        refine g_goto 4 dX0_isUnder_30 (by decide) ?_
        have q := lk_um1 (X := X) (h := h) (s := s + 1) (kd := kd) (o := o) (by omega)
        rw [show (decide (o = 0) || false) = false by rw [decide_eq_false (fun e => c16 e.symm), Bool.false_or]]
        exact q
      · refine g_iconst dX0_isUnder_19 ic_1 ?_
        exact g_ireturn dX0_isUnder_20 (by rw [decide_eq_true c16.symm]; rfl) rfl

set_option maxRecDepth 100000 in
set_option maxHeartbeats 4000000 in
theorem lk_u1 {X : Sc} {h : Hp} {s : Nat} (hs : s + 2 ≤ 6) {kd o : Int32} : Go X RX0 cX0_isUnder 4 0 4 [.int kd, .int o, .int (1), .int (nI s)] [] h (some (.int (bI (decide (o = 1) || (decide (o = 0) || false))))) h := by
  refine g_iload_n dX0_isUnder_4 rfl ?_
  refine g_bipush dX0_isUnder_5 bp_7 ?_
  refine g_icmp_ge 33 dX0_isUnder_7 (by decide) (fun c7 => ?_) (fun c7 => ?_)
  · exact absurd c7 (nI_ge (a := s) (b := 7) (by omega) (by decide))
  · refine g_iload_n dX0_isUnder_10 rfl ?_
    refine g_if_lt 33 dX0_isUnder_11 (by decide) (fun c11 => ?_) (fun c11 => ?_)
    · exact absurd c11 (by decide)
    · refine g_iload_n dX0_isUnder_14 rfl ?_
      refine g_iload_n dX0_isUnder_15 rfl ?_
      refine g_icmp_ne 21 dX0_isUnder_16 (by decide) (fun c16 => ?_) (fun c16 => ?_)
      · refine g_gets (i := 100) dX0_isUnder_21 ro0 fs_X0_54 ?_
        refine g_iload_n dX0_isUnder_24 rfl ?_
        refine g_ildr (l0 := kndAbove) 1 dX0_isUnder_25 ro0 rfl (by decide) (by decide) ?_
        refine g_istore_n dX0_isUnder_26 (by decide) rfl ?_
        refine g_iinc dX0_isUnder_27 rfl (ii_n _) (by decide) rfl ?_
        refine g_goto 4 dX0_isUnder_30 (by decide) ?_
        have q := lk_u0 (X := X) (h := h) (s := s + 1) (kd := kd) (o := o) (by omega)
        rw [show (decide (o = 1) || (decide (o = 0) || false)) = (decide (o = 0) || false) by rw [decide_eq_false (fun e => c16 e.symm), Bool.false_or]]
        exact q
      · refine g_iconst dX0_isUnder_19 ic_1 ?_
        exact g_ireturn dX0_isUnder_20 (by rw [decide_eq_true c16.symm]; rfl) rfl

set_option maxRecDepth 100000 in
set_option maxHeartbeats 4000000 in
theorem lk_u2 {X : Sc} {h : Hp} {s : Nat} (hs : s + 2 ≤ 6) {kd o : Int32} : Go X RX0 cX0_isUnder 4 0 4 [.int kd, .int o, .int (2), .int (nI s)] [] h (some (.int (bI (decide (o = 2) || (decide (o = 0) || false))))) h := by
  refine g_iload_n dX0_isUnder_4 rfl ?_
  refine g_bipush dX0_isUnder_5 bp_7 ?_
  refine g_icmp_ge 33 dX0_isUnder_7 (by decide) (fun c7 => ?_) (fun c7 => ?_)
  · exact absurd c7 (nI_ge (a := s) (b := 7) (by omega) (by decide))
  · refine g_iload_n dX0_isUnder_10 rfl ?_
    refine g_if_lt 33 dX0_isUnder_11 (by decide) (fun c11 => ?_) (fun c11 => ?_)
    · exact absurd c11 (by decide)
    · refine g_iload_n dX0_isUnder_14 rfl ?_
      refine g_iload_n dX0_isUnder_15 rfl ?_
      refine g_icmp_ne 21 dX0_isUnder_16 (by decide) (fun c16 => ?_) (fun c16 => ?_)
      · refine g_gets (i := 100) dX0_isUnder_21 ro0 fs_X0_54 ?_
        refine g_iload_n dX0_isUnder_24 rfl ?_
        refine g_ildr (l0 := kndAbove) 2 dX0_isUnder_25 ro0 rfl (by decide) (by decide) ?_
        refine g_istore_n dX0_isUnder_26 (by decide) rfl ?_
        refine g_iinc dX0_isUnder_27 rfl (ii_n _) (by decide) rfl ?_
        refine g_goto 4 dX0_isUnder_30 (by decide) ?_
        have q := lk_u0 (X := X) (h := h) (s := s + 1) (kd := kd) (o := o) (by omega)
        rw [show (decide (o = 2) || (decide (o = 0) || false)) = (decide (o = 0) || false) by rw [decide_eq_false (fun e => c16 e.symm), Bool.false_or]]
        exact q
      · refine g_iconst dX0_isUnder_19 ic_1 ?_
        exact g_ireturn dX0_isUnder_20 (by rw [decide_eq_true c16.symm]; rfl) rfl

set_option maxRecDepth 100000 in
set_option maxHeartbeats 4000000 in
theorem lk_u5 {X : Sc} {h : Hp} {s : Nat} (hs : s + 2 ≤ 6) {kd o : Int32} : Go X RX0 cX0_isUnder 4 0 4 [.int kd, .int o, .int (5), .int (nI s)] [] h (some (.int (bI (decide (o = 5) || (decide (o = 0) || false))))) h := by
  refine g_iload_n dX0_isUnder_4 rfl ?_
  refine g_bipush dX0_isUnder_5 bp_7 ?_
  refine g_icmp_ge 33 dX0_isUnder_7 (by decide) (fun c7 => ?_) (fun c7 => ?_)
  · exact absurd c7 (nI_ge (a := s) (b := 7) (by omega) (by decide))
  · refine g_iload_n dX0_isUnder_10 rfl ?_
    refine g_if_lt 33 dX0_isUnder_11 (by decide) (fun c11 => ?_) (fun c11 => ?_)
    · exact absurd c11 (by decide)
    · refine g_iload_n dX0_isUnder_14 rfl ?_
      refine g_iload_n dX0_isUnder_15 rfl ?_
      refine g_icmp_ne 21 dX0_isUnder_16 (by decide) (fun c16 => ?_) (fun c16 => ?_)
      · refine g_gets (i := 100) dX0_isUnder_21 ro0 fs_X0_54 ?_
        refine g_iload_n dX0_isUnder_24 rfl ?_
        refine g_ildr (l0 := kndAbove) 5 dX0_isUnder_25 ro0 rfl (by decide) (by decide) ?_
        refine g_istore_n dX0_isUnder_26 (by decide) rfl ?_
        refine g_iinc dX0_isUnder_27 rfl (ii_n _) (by decide) rfl ?_
        refine g_goto 4 dX0_isUnder_30 (by decide) ?_
        have q := lk_u0 (X := X) (h := h) (s := s + 1) (kd := kd) (o := o) (by omega)
        rw [show (decide (o = 5) || (decide (o = 0) || false)) = (decide (o = 0) || false) by rw [decide_eq_false (fun e => c16 e.symm), Bool.false_or]]
        exact q
      · refine g_iconst dX0_isUnder_19 ic_1 ?_
        exact g_ireturn dX0_isUnder_20 (by rw [decide_eq_true c16.symm]; rfl) rfl

set_option maxRecDepth 100000 in
set_option maxHeartbeats 4000000 in
theorem lk_u3 {X : Sc} {h : Hp} {s : Nat} (hs : s + 3 ≤ 6) {kd o : Int32} : Go X RX0 cX0_isUnder 4 0 4 [.int kd, .int o, .int (3), .int (nI s)] [] h (some (.int (bI (decide (o = 3) || (decide (o = 2) || (decide (o = 0) || false)))))) h := by
  refine g_iload_n dX0_isUnder_4 rfl ?_
  refine g_bipush dX0_isUnder_5 bp_7 ?_
  refine g_icmp_ge 33 dX0_isUnder_7 (by decide) (fun c7 => ?_) (fun c7 => ?_)
  · exact absurd c7 (nI_ge (a := s) (b := 7) (by omega) (by decide))
  · refine g_iload_n dX0_isUnder_10 rfl ?_
    refine g_if_lt 33 dX0_isUnder_11 (by decide) (fun c11 => ?_) (fun c11 => ?_)
    · exact absurd c11 (by decide)
    · refine g_iload_n dX0_isUnder_14 rfl ?_
      refine g_iload_n dX0_isUnder_15 rfl ?_
      refine g_icmp_ne 21 dX0_isUnder_16 (by decide) (fun c16 => ?_) (fun c16 => ?_)
      · refine g_gets (i := 100) dX0_isUnder_21 ro0 fs_X0_54 ?_
        refine g_iload_n dX0_isUnder_24 rfl ?_
        refine g_ildr (l0 := kndAbove) 3 dX0_isUnder_25 ro0 rfl (by decide) (by decide) ?_
        refine g_istore_n dX0_isUnder_26 (by decide) rfl ?_
        refine g_iinc dX0_isUnder_27 rfl (ii_n _) (by decide) rfl ?_
        refine g_goto 4 dX0_isUnder_30 (by decide) ?_
        have q := lk_u2 (X := X) (h := h) (s := s + 1) (kd := kd) (o := o) (by omega)
        rw [show (decide (o = 3) || (decide (o = 2) || (decide (o = 0) || false))) = (decide (o = 2) || (decide (o = 0) || false)) by rw [decide_eq_false (fun e => c16 e.symm), Bool.false_or]]
        exact q
      · refine g_iconst dX0_isUnder_19 ic_1 ?_
        exact g_ireturn dX0_isUnder_20 (by rw [decide_eq_true c16.symm]; rfl) rfl

set_option maxRecDepth 100000 in
set_option maxHeartbeats 4000000 in
theorem lk_u6 {X : Sc} {h : Hp} {s : Nat} (hs : s + 3 ≤ 6) {kd o : Int32} : Go X RX0 cX0_isUnder 4 0 4 [.int kd, .int o, .int (6), .int (nI s)] [] h (some (.int (bI (decide (o = 6) || (decide (o = 1) || (decide (o = 0) || false)))))) h := by
  refine g_iload_n dX0_isUnder_4 rfl ?_
  refine g_bipush dX0_isUnder_5 bp_7 ?_
  refine g_icmp_ge 33 dX0_isUnder_7 (by decide) (fun c7 => ?_) (fun c7 => ?_)
  · exact absurd c7 (nI_ge (a := s) (b := 7) (by omega) (by decide))
  · refine g_iload_n dX0_isUnder_10 rfl ?_
    refine g_if_lt 33 dX0_isUnder_11 (by decide) (fun c11 => ?_) (fun c11 => ?_)
    · exact absurd c11 (by decide)
    · refine g_iload_n dX0_isUnder_14 rfl ?_
      refine g_iload_n dX0_isUnder_15 rfl ?_
      refine g_icmp_ne 21 dX0_isUnder_16 (by decide) (fun c16 => ?_) (fun c16 => ?_)
      · refine g_gets (i := 100) dX0_isUnder_21 ro0 fs_X0_54 ?_
        refine g_iload_n dX0_isUnder_24 rfl ?_
        refine g_ildr (l0 := kndAbove) 6 dX0_isUnder_25 ro0 rfl (by decide) (by decide) ?_
        refine g_istore_n dX0_isUnder_26 (by decide) rfl ?_
        refine g_iinc dX0_isUnder_27 rfl (ii_n _) (by decide) rfl ?_
        refine g_goto 4 dX0_isUnder_30 (by decide) ?_
        have q := lk_u1 (X := X) (h := h) (s := s + 1) (kd := kd) (o := o) (by omega)
        rw [show (decide (o = 6) || (decide (o = 1) || (decide (o = 0) || false))) = (decide (o = 1) || (decide (o = 0) || false)) by rw [decide_eq_false (fun e => c16 e.symm), Bool.false_or]]
        exact q
      · refine g_iconst dX0_isUnder_19 ic_1 ?_
        exact g_ireturn dX0_isUnder_20 (by rw [decide_eq_true c16.symm]; rfl) rfl

set_option maxRecDepth 100000 in
set_option maxHeartbeats 4000000 in
theorem lk_u4 {X : Sc} {h : Hp} {s : Nat} (hs : s + 4 ≤ 6) {kd o : Int32} : Go X RX0 cX0_isUnder 4 0 4 [.int kd, .int o, .int (4), .int (nI s)] [] h (some (.int (bI (decide (o = 4) || (decide (o = 3) || (decide (o = 2) || (decide (o = 0) || false))))))) h := by
  refine g_iload_n dX0_isUnder_4 rfl ?_
  refine g_bipush dX0_isUnder_5 bp_7 ?_
  refine g_icmp_ge 33 dX0_isUnder_7 (by decide) (fun c7 => ?_) (fun c7 => ?_)
  · exact absurd c7 (nI_ge (a := s) (b := 7) (by omega) (by decide))
  · refine g_iload_n dX0_isUnder_10 rfl ?_
    refine g_if_lt 33 dX0_isUnder_11 (by decide) (fun c11 => ?_) (fun c11 => ?_)
    · exact absurd c11 (by decide)
    · refine g_iload_n dX0_isUnder_14 rfl ?_
      refine g_iload_n dX0_isUnder_15 rfl ?_
      refine g_icmp_ne 21 dX0_isUnder_16 (by decide) (fun c16 => ?_) (fun c16 => ?_)
      · refine g_gets (i := 100) dX0_isUnder_21 ro0 fs_X0_54 ?_
        refine g_iload_n dX0_isUnder_24 rfl ?_
        refine g_ildr (l0 := kndAbove) 4 dX0_isUnder_25 ro0 rfl (by decide) (by decide) ?_
        refine g_istore_n dX0_isUnder_26 (by decide) rfl ?_
        refine g_iinc dX0_isUnder_27 rfl (ii_n _) (by decide) rfl ?_
        refine g_goto 4 dX0_isUnder_30 (by decide) ?_
        have q := lk_u3 (X := X) (h := h) (s := s + 1) (kd := kd) (o := o) (by omega)
        rw [show (decide (o = 4) || (decide (o = 3) || (decide (o = 2) || (decide (o = 0) || false)))) = (decide (o = 3) || (decide (o = 2) || (decide (o = 0) || false))) by rw [decide_eq_false (fun e => c16 e.symm), Bool.false_or]]
        exact q
      · refine g_iconst dX0_isUnder_19 ic_1 ?_
        exact g_ireturn dX0_isUnder_20 (by rw [decide_eq_true c16.symm]; rfl) rfl

theorem und_all : ∀ k, k ≤ 6 → ∀ o : Int32, und (nI k) o = (match k with
  | 0 => decide (o = 0) || false
  | 1 => decide (o = 1) || (decide (o = 0) || false)
  | 2 => decide (o = 2) || (decide (o = 0) || false)
  | 3 => decide (o = 3) || (decide (o = 2) || (decide (o = 0) || false))
  | 4 => decide (o = 4) || (decide (o = 3) || (decide (o = 2) || (decide (o = 0) || false)))
  | 5 => decide (o = 5) || (decide (o = 0) || false)
  | _ => decide (o = 6) || (decide (o = 1) || (decide (o = 0) || false))) := by
  intro k hk o
  unfold und
  match k, hk with
  | 0, _ | 1, _ | 2, _ | 3, _ | 4, _ | 5, _ | 6, _ =>
    by_cases e0 : o = 0
    · subst e0; decide
    · by_cases e1 : o = 1
      · subst e1; decide
      · by_cases e2 : o = 2
        · subst e2; decide
        · by_cases e3 : o = 3
          · subst e3; decide
          · by_cases e4 : o = 4
            · subst e4; decide
            · by_cases e5 : o = 5
              · subst e5; decide
              · by_cases e6 : o = 6
                · subst e6; decide
                · simp only [e0, e1, e2, e3, e4, e5, e6, decide_false, show nI 0 = 0 from rfl, show nI 1 = 1 from rfl, show nI 2 = 2 from rfl, show nI 3 = 3 from rfl, show nI 4 = 4 from rfl, show nI 5 = 5 from rfl, show nI 6 = 6 from rfl]; decide
  | n + 7, h => exact absurd h (by omega)
set_option maxRecDepth 100000 in
set_option maxHeartbeats 4000000 in
theorem c_X0_isUnder {X : Sc} {h : Hp} {k : Nat} (hk : k ≤ 6) {o : Int32} : Ct X yX0_isUnder cX0_isUnder 4 (some .boolean) 0 [.int (nI k), .int o] h (some (.int (bI (und (nI k) o)))) h := by
  refine ⟨rok_b _, ?_⟩
  refine g_iload_n dX0_isUnder_0 rfl ?_
  refine g_istore_n dX0_isUnder_1 (by decide) rfl ?_
  refine g_iconst dX0_isUnder_2 ic_0 ?_
  refine g_istore_n dX0_isUnder_3 (by decide) rfl ?_
  rw [und_all k hk o]
  match k, hk with
  | 0, _ => exact lk_u0 (by decide)
  | 1, _ => exact lk_u1 (by decide)
  | 2, _ => exact lk_u2 (by decide)
  | 3, _ => exact lk_u3 (by decide)
  | 4, _ => exact lk_u4 (by decide)
  | 5, _ => exact lk_u5 (by decide)
  | 6, _ => exact lk_u6 (by decide)
  | n + 7, h => exact absurd h (by omega)
end
