theorem dX4_init_0 : decode cX4_init 0 = .ok (.aload_n 0, 1) := by decide +kernel
theorem dX4_init_1 : decode cX4_init 1 = .ok (.invokespecial 3, 3) := by decide +kernel
theorem dX4_init_4 : decode cX4_init 4 = .ok (.aload_n 0, 1) := by decide +kernel
theorem dX4_init_5 : decode cX4_init 5 = .ok (.bipush 98, 2) := by decide +kernel
theorem dX4_init_7 : decode cX4_init 7 = .ok (.newarray .int, 2) := by decide +kernel
theorem dX4_init_9 : decode cX4_init 9 = .ok (.putfield 9, 3) := by decide +kernel
theorem dX4_init_12 : decode cX4_init 12 = .ok (.aload_n 0, 1) := by decide +kernel
theorem dX4_init_13 : decode cX4_init 13 = .ok (.bipush 98, 2) := by decide +kernel
theorem dX4_init_15 : decode cX4_init 15 = .ok (.newarray .int, 2) := by decide +kernel
theorem dX4_init_17 : decode cX4_init 17 = .ok (.putfield 13, 3) := by decide +kernel
theorem dX4_init_20 : decode cX4_init 20 = .ok (.aload_n 0, 1) := by decide +kernel
theorem dX4_init_21 : decode cX4_init 21 = .ok (.bipush 98, 2) := by decide +kernel
theorem dX4_init_23 : decode cX4_init 23 = .ok (.newarray .int, 2) := by decide +kernel
theorem dX4_init_25 : decode cX4_init 25 = .ok (.putfield 16, 3) := by decide +kernel
theorem dX4_init_28 : decode cX4_init 28 = .ok (.aload_n 0, 1) := by decide +kernel
theorem dX4_init_29 : decode cX4_init 29 = .ok (.bipush 7, 2) := by decide +kernel
theorem dX4_init_31 : decode cX4_init 31 = .ok (.newarray .int, 2) := by decide +kernel
theorem dX4_init_33 : decode cX4_init 33 = .ok (.putfield 19, 3) := by decide +kernel
theorem dX4_init_36 : decode cX4_init 36 = .ok (.aload_n 0, 1) := by decide +kernel
theorem dX4_init_37 : decode cX4_init 37 = .ok (.iconst 4, 1) := by decide +kernel
theorem dX4_init_38 : decode cX4_init 38 = .ok (.newarray .int, 2) := by decide +kernel
theorem dX4_init_40 : decode cX4_init 40 = .ok (.putfield 22, 3) := by decide +kernel
theorem dX4_init_43 : decode cX4_init 43 = .ok (.aload_n 0, 1) := by decide +kernel
theorem dX4_init_44 : decode cX4_init 44 = .ok (.iconst 4, 1) := by decide +kernel
theorem dX4_init_45 : decode cX4_init 45 = .ok (.newarray .int, 2) := by decide +kernel
theorem dX4_init_47 : decode cX4_init 47 = .ok (.putfield 25, 3) := by decide +kernel
theorem dX4_init_50 : decode cX4_init 50 = .ok (.aload_n 0, 1) := by decide +kernel
theorem dX4_init_51 : decode cX4_init 51 = .ok (.sipush 160, 3) := by decide +kernel
theorem dX4_init_54 : decode cX4_init 54 = .ok (.newarray .int, 2) := by decide +kernel
theorem dX4_init_56 : decode cX4_init 56 = .ok (.putfield 28, 3) := by decide +kernel
theorem dX4_init_59 : decode cX4_init 59 = .ok (.aload_n 0, 1) := by decide +kernel
theorem dX4_init_60 : decode cX4_init 60 = .ok (.bipush 120, 2) := by decide +kernel
theorem dX4_init_62 : decode cX4_init 62 = .ok (.newarray .int, 2) := by decide +kernel
theorem dX4_init_64 : decode cX4_init 64 = .ok (.putfield 31, 3) := by decide +kernel
theorem dX4_init_67 : decode cX4_init 67 = .ok (.aload_n 0, 1) := by decide +kernel
theorem dX4_init_68 : decode cX4_init 68 = .ok (.getfield 9, 3) := by decide +kernel
theorem dX4_init_71 : decode cX4_init 71 = .ok (.iconst 1, 1) := by decide +kernel
theorem dX4_init_72 : decode cX4_init 72 = .ok (.iconst 1, 1) := by decide +kernel
theorem dX4_init_73 : decode cX4_init 73 = .ok (.iastore, 1) := by decide +kernel
theorem dX4_init_74 : decode cX4_init 74 = .ok (.bipush 88, 2) := by decide +kernel
theorem dX4_init_76 : decode cX4_init 76 = .ok (.istore_n 1, 1) := by decide +kernel
theorem dX4_init_77 : decode cX4_init 77 = .ok (.iload_n 1, 1) := by decide +kernel
theorem dX4_init_78 : decode cX4_init 78 = .ok (.bipush 98, 2) := by decide +kernel
theorem dX4_init_80 : decode cX4_init 80 = .ok (.if_icmp .ge 16, 3) := by decide +kernel
theorem dX4_init_83 : decode cX4_init 83 = .ok (.aload_n 0, 1) := by decide +kernel
theorem dX4_init_84 : decode cX4_init 84 = .ok (.getfield 9, 3) := by decide +kernel
theorem dX4_init_87 : decode cX4_init 87 = .ok (.iload_n 1, 1) := by decide +kernel
theorem dX4_init_88 : decode cX4_init 88 = .ok (.iconst (-1), 1) := by decide +kernel
theorem dX4_init_89 : decode cX4_init 89 = .ok (.iastore, 1) := by decide +kernel
theorem dX4_init_90 : decode cX4_init 90 = .ok (.iinc 1 1, 3) := by decide +kernel
theorem dX4_init_93 : decode cX4_init 93 = .ok (.goto (-16), 3) := by decide +kernel
theorem dX4_init_96 : decode cX4_init 96 = .ok (.return_, 1) := by decide +kernel
theorem dX4_finds_0 : decode cX4_finds 0 = .ok (.aload_n 0, 1) := by decide +kernel
theorem dX4_finds_1 : decode cX4_finds 1 = .ok (.getfield 19, 3) := by decide +kernel
theorem dX4_finds_4 : decode cX4_finds 4 = .ok (.ldc 34, 2) := by decide +kernel
theorem dX4_finds_6 : decode cX4_finds 6 = .ok (.iload_n 1, 1) := by decide +kernel
theorem dX4_finds_7 : decode cX4_finds 7 = .ok (.isub, 1) := by decide +kernel
theorem dX4_finds_8 : decode cX4_finds 8 = .ok (.dup2, 1) := by decide +kernel
theorem dX4_finds_9 : decode cX4_finds 9 = .ok (.iaload, 1) := by decide +kernel
theorem dX4_finds_10 : decode cX4_finds 10 = .ok (.iconst 1, 1) := by decide +kernel
theorem dX4_finds_11 : decode cX4_finds 11 = .ok (.iadd, 1) := by decide +kernel
theorem dX4_finds_12 : decode cX4_finds 12 = .ok (.iastore, 1) := by decide +kernel
theorem dX4_finds_13 : decode cX4_finds 13 = .ok (.iload_n 1, 1) := by decide +kernel
theorem dX4_finds_14 : decode cX4_finds 14 = .ok (.ireturn, 1) := by decide +kernel
theorem dX4_orNone_0 : decode cX4_orNone 0 = .ok (.iload_n 1, 1) := by decide +kernel
theorem dX4_orNone_1 : decode cX4_orNone 1 = .ok (.ifCond .ge 12, 3) := by decide +kernel
theorem dX4_orNone_4 : decode cX4_orNone 4 = .ok (.aload_n 0, 1) := by decide +kernel
theorem dX4_orNone_5 : decode cX4_orNone 5 = .ok (.ldc 35, 2) := by decide +kernel
theorem dX4_orNone_7 : decode cX4_orNone 7 = .ok (.invokevirtual 36, 3) := by decide +kernel
theorem dX4_orNone_10 : decode cX4_orNone 10 = .ok (.goto 4, 3) := by decide +kernel
theorem dX4_orNone_13 : decode cX4_orNone 13 = .ok (.iload_n 1, 1) := by decide +kernel
theorem dX4_orNone_14 : decode cX4_orNone 14 = .ok (.ireturn, 1) := by decide +kernel
theorem dX4_in_0 : decode cX4_in 0 = .ok (.iload_n 0, 1) := by decide +kernel
theorem dX4_in_1 : decode cX4_in 1 = .ok (.iload_n 1, 1) := by decide +kernel
theorem dX4_in_2 : decode cX4_in 2 = .ok (.if_icmp .lt 12, 3) := by decide +kernel
theorem dX4_in_5 : decode cX4_in 5 = .ok (.iload_n 0, 1) := by decide +kernel
theorem dX4_in_6 : decode cX4_in 6 = .ok (.iload_n 2, 1) := by decide +kernel
theorem dX4_in_7 : decode cX4_in 7 = .ok (.if_icmp .gt 7, 3) := by decide +kernel
theorem dX4_in_10 : decode cX4_in 10 = .ok (.iconst 1, 1) := by decide +kernel
theorem dX4_in_11 : decode cX4_in 11 = .ok (.goto 4, 3) := by decide +kernel
theorem dX4_in_14 : decode cX4_in 14 = .ok (.iconst 0, 1) := by decide +kernel
theorem dX4_in_15 : decode cX4_in 15 = .ok (.ireturn, 1) := by decide +kernel
theorem dX4_held_0 : decode cX4_held 0 = .ok (.iload_n 0, 1) := by decide +kernel
theorem dX4_held_1 : decode cX4_held 1 = .ok (.iload_n 1, 1) := by decide +kernel
theorem dX4_held_2 : decode cX4_held 2 = .ok (.if_icmp .ge 7, 3) := by decide +kernel
theorem dX4_held_5 : decode cX4_held 5 = .ok (.iload_n 1, 1) := by decide +kernel
theorem dX4_held_6 : decode cX4_held 6 = .ok (.goto 13, 3) := by decide +kernel
theorem dX4_held_9 : decode cX4_held 9 = .ok (.iload_n 0, 1) := by decide +kernel
theorem dX4_held_10 : decode cX4_held 10 = .ok (.iload_n 2, 1) := by decide +kernel
theorem dX4_held_11 : decode cX4_held 11 = .ok (.if_icmp .le 7, 3) := by decide +kernel
theorem dX4_held_14 : decode cX4_held 14 = .ok (.iload_n 2, 1) := by decide +kernel
theorem dX4_held_15 : decode cX4_held 15 = .ok (.goto 4, 3) := by decide +kernel
theorem dX4_held_18 : decode cX4_held 18 = .ok (.iload_n 0, 1) := by decide +kernel
theorem dX4_held_19 : decode cX4_held 19 = .ok (.ireturn, 1) := by decide +kernel
theorem dX4_copyAll_0 : decode cX4_copyAll 0 = .ok (.iconst 0, 1) := by decide +kernel
theorem dX4_copyAll_1 : decode cX4_copyAll 1 = .ok (.istore_n 2, 1) := by decide +kernel
theorem dX4_copyAll_2 : decode cX4_copyAll 2 = .ok (.iload_n 2, 1) := by decide +kernel
theorem dX4_copyAll_3 : decode cX4_copyAll 3 = .ok (.bipush 98, 2) := by decide +kernel
theorem dX4_copyAll_5 : decode cX4_copyAll 5 = .ok (.if_icmp .ge 15, 3) := by decide +kernel
theorem dX4_copyAll_8 : decode cX4_copyAll 8 = .ok (.aload_n 1, 1) := by decide +kernel
theorem dX4_copyAll_9 : decode cX4_copyAll 9 = .ok (.iload_n 2, 1) := by decide +kernel
theorem dX4_copyAll_10 : decode cX4_copyAll 10 = .ok (.aload_n 0, 1) := by decide +kernel
theorem dX4_copyAll_11 : decode cX4_copyAll 11 = .ok (.iload_n 2, 1) := by decide +kernel
theorem dX4_copyAll_12 : decode cX4_copyAll 12 = .ok (.iaload, 1) := by decide +kernel
theorem dX4_copyAll_13 : decode cX4_copyAll 13 = .ok (.iastore, 1) := by decide +kernel
theorem dX4_copyAll_14 : decode cX4_copyAll 14 = .ok (.iinc 2 1, 3) := by decide +kernel
theorem dX4_copyAll_17 : decode cX4_copyAll 17 = .ok (.goto (-15), 3) := by decide +kernel
theorem dX4_copyAll_20 : decode cX4_copyAll 20 = .ok (.return_, 1) := by decide +kernel
theorem dX4_becomes_0 : decode cX4_becomes 0 = .ok (.aload_n 0, 1) := by decide +kernel
theorem dX4_becomes_1 : decode cX4_becomes 1 = .ok (.getfield 9, 3) := by decide +kernel
theorem dX4_becomes_4 : decode cX4_becomes 4 = .ok (.iload_n 1, 1) := by decide +kernel
theorem dX4_becomes_5 : decode cX4_becomes 5 = .ok (.iaload, 1) := by decide +kernel
theorem dX4_becomes_6 : decode cX4_becomes 6 = .ok (.istore_n 3, 1) := by decide +kernel
theorem dX4_becomes_7 : decode cX4_becomes 7 = .ok (.aload_n 0, 1) := by decide +kernel
theorem dX4_becomes_8 : decode cX4_becomes 8 = .ok (.getfield 9, 3) := by decide +kernel
theorem dX4_becomes_11 : decode cX4_becomes 11 = .ok (.iload_n 1, 1) := by decide +kernel
theorem dX4_becomes_12 : decode cX4_becomes 12 = .ok (.iload_n 2, 1) := by decide +kernel
theorem dX4_becomes_13 : decode cX4_becomes 13 = .ok (.iastore, 1) := by decide +kernel
theorem dX4_becomes_14 : decode cX4_becomes 14 = .ok (.iload_n 3, 1) := by decide +kernel
theorem dX4_becomes_15 : decode cX4_becomes 15 = .ok (.ireturn, 1) := by decide +kernel
theorem dX4_isDish_0 : decode cX4_isDish 0 = .ok (.iload_n 1, 1) := by decide +kernel
theorem dX4_isDish_1 : decode cX4_isDish 1 = .ok (.iconst 0, 1) := by decide +kernel
theorem dX4_isDish_2 : decode cX4_isDish 2 = .ok (.aload_n 0, 1) := by decide +kernel
theorem dX4_isDish_3 : decode cX4_isDish 3 = .ok (.getfield 9, 3) := by decide +kernel
theorem dX4_isDish_6 : decode cX4_isDish 6 = .ok (.iconst 2, 1) := by decide +kernel
theorem dX4_isDish_7 : decode cX4_isDish 7 = .ok (.iaload, 1) := by decide +kernel
theorem dX4_isDish_8 : decode cX4_isDish 8 = .ok (.iconst 1, 1) := by decide +kernel
theorem dX4_isDish_9 : decode cX4_isDish 9 = .ok (.isub, 1) := by decide +kernel
theorem dX4_isDish_10 : decode cX4_isDish 10 = .ok (.invokestatic 40, 3) := by decide +kernel
theorem dX4_isDish_13 : decode cX4_isDish 13 = .ok (.ireturn, 1) := by decide +kernel
theorem dX4_isGuest_0 : decode cX4_isGuest 0 = .ok (.iload_n 1, 1) := by decide +kernel
theorem dX4_isGuest_1 : decode cX4_isGuest 1 = .ok (.iconst 0, 1) := by decide +kernel
theorem dX4_isGuest_2 : decode cX4_isGuest 2 = .ok (.aload_n 0, 1) := by decide +kernel
theorem dX4_isGuest_3 : decode cX4_isGuest 3 = .ok (.getfield 9, 3) := by decide +kernel
theorem dX4_isGuest_6 : decode cX4_isGuest 6 = .ok (.iconst 3, 1) := by decide +kernel
theorem dX4_isGuest_7 : decode cX4_isGuest 7 = .ok (.iaload, 1) := by decide +kernel
theorem dX4_isGuest_8 : decode cX4_isGuest 8 = .ok (.iconst 1, 1) := by decide +kernel
theorem dX4_isGuest_9 : decode cX4_isGuest 9 = .ok (.isub, 1) := by decide +kernel
theorem dX4_isGuest_10 : decode cX4_isGuest 10 = .ok (.invokestatic 40, 3) := by decide +kernel
theorem dX4_isGuest_13 : decode cX4_isGuest 13 = .ok (.ireturn, 1) := by decide +kernel
theorem dX4_isTown_0 : decode cX4_isTown 0 = .ok (.iload_n 0, 1) := by decide +kernel
theorem dX4_isTown_1 : decode cX4_isTown 1 = .ok (.iconst 0, 1) := by decide +kernel
theorem dX4_isTown_2 : decode cX4_isTown 2 = .ok (.bipush 11, 2) := by decide +kernel
theorem dX4_isTown_4 : decode cX4_isTown 4 = .ok (.invokestatic 40, 3) := by decide +kernel
theorem dX4_isTown_7 : decode cX4_isTown 7 = .ok (.ireturn, 1) := by decide +kernel
theorem dX4_isPlace_0 : decode cX4_isPlace 0 = .ok (.iload_n 0, 1) := by decide +kernel
theorem dX4_isPlace_1 : decode cX4_isPlace 1 = .ok (.iconst 0, 1) := by decide +kernel
theorem dX4_isPlace_2 : decode cX4_isPlace 2 = .ok (.iconst 5, 1) := by decide +kernel
theorem dX4_isPlace_3 : decode cX4_isPlace 3 = .ok (.invokestatic 40, 3) := by decide +kernel
theorem dX4_isPlace_6 : decode cX4_isPlace 6 = .ok (.ireturn, 1) := by decide +kernel
theorem dX4_it_0 : decode cX4_it 0 = .ok (.aload_n 0, 1) := by decide +kernel
theorem dX4_it_1 : decode cX4_it 1 = .ok (.getfield 9, 3) := by decide +kernel
theorem dX4_it_4 : decode cX4_it 4 = .ok (.bipush 10, 2) := by decide +kernel
theorem dX4_it_6 : decode cX4_it 6 = .ok (.bipush 6, 2) := by decide +kernel
theorem dX4_it_8 : decode cX4_it 8 = .ok (.iload_n 1, 1) := by decide +kernel
theorem dX4_it_9 : decode cX4_it 9 = .ok (.imul, 1) := by decide +kernel
theorem dX4_it_10 : decode cX4_it 10 = .ok (.iadd, 1) := by decide +kernel
theorem dX4_it_11 : decode cX4_it 11 = .ok (.iload_n 2, 1) := by decide +kernel
theorem dX4_it_12 : decode cX4_it 12 = .ok (.iadd, 1) := by decide +kernel
theorem dX4_it_13 : decode cX4_it 13 = .ok (.iaload, 1) := by decide +kernel
theorem dX4_it_14 : decode cX4_it 14 = .ok (.ireturn, 1) := by decide +kernel
theorem dX4_put_0 : decode cX4_put 0 = .ok (.aload_n 0, 1) := by decide +kernel
theorem dX4_put_1 : decode cX4_put 1 = .ok (.getfield 9, 3) := by decide +kernel
theorem dX4_put_4 : decode cX4_put 4 = .ok (.bipush 10, 2) := by decide +kernel
theorem dX4_put_6 : decode cX4_put 6 = .ok (.bipush 6, 2) := by decide +kernel
theorem dX4_put_8 : decode cX4_put 8 = .ok (.iload_n 1, 1) := by decide +kernel
theorem dX4_put_9 : decode cX4_put 9 = .ok (.imul, 1) := by decide +kernel
theorem dX4_put_10 : decode cX4_put 10 = .ok (.iadd, 1) := by decide +kernel
theorem dX4_put_11 : decode cX4_put 11 = .ok (.iload_n 2, 1) := by decide +kernel
theorem dX4_put_12 : decode cX4_put 12 = .ok (.iadd, 1) := by decide +kernel
theorem dX4_put_13 : decode cX4_put 13 = .ok (.iload_n 3, 1) := by decide +kernel
theorem dX4_put_14 : decode cX4_put 14 = .ok (.iastore, 1) := by decide +kernel
theorem dX4_put_15 : decode cX4_put 15 = .ok (.return_, 1) := by decide +kernel
theorem dX4_his_0 : decode cX4_his 0 = .ok (.aload_n 0, 1) := by decide +kernel
theorem dX4_his_1 : decode cX4_his 1 = .ok (.getfield 9, 3) := by decide +kernel
theorem dX4_his_4 : decode cX4_his 4 = .ok (.bipush 58, 2) := by decide +kernel
theorem dX4_his_6 : decode cX4_his 6 = .ok (.iconst 5, 1) := by decide +kernel
theorem dX4_his_7 : decode cX4_his 7 = .ok (.iload_n 1, 1) := by decide +kernel
theorem dX4_his_8 : decode cX4_his 8 = .ok (.imul, 1) := by decide +kernel
theorem dX4_his_9 : decode cX4_his 9 = .ok (.iadd, 1) := by decide +kernel
theorem dX4_his_10 : decode cX4_his 10 = .ok (.iload_n 2, 1) := by decide +kernel
theorem dX4_his_11 : decode cX4_his 11 = .ok (.iadd, 1) := by decide +kernel
theorem dX4_his_12 : decode cX4_his 12 = .ok (.iaload, 1) := by decide +kernel
theorem dX4_his_13 : decode cX4_his 13 = .ok (.ireturn, 1) := by decide +kernel
theorem dX4_lets_0 : decode cX4_lets 0 = .ok (.aload_n 0, 1) := by decide +kernel
theorem dX4_lets_1 : decode cX4_lets 1 = .ok (.getfield 9, 3) := by decide +kernel
theorem dX4_lets_4 : decode cX4_lets 4 = .ok (.bipush 58, 2) := by decide +kernel
theorem dX4_lets_6 : decode cX4_lets 6 = .ok (.iconst 5, 1) := by decide +kernel
theorem dX4_lets_7 : decode cX4_lets 7 = .ok (.iload_n 1, 1) := by decide +kernel
theorem dX4_lets_8 : decode cX4_lets 8 = .ok (.imul, 1) := by decide +kernel
theorem dX4_lets_9 : decode cX4_lets 9 = .ok (.iadd, 1) := by decide +kernel
theorem dX4_lets_10 : decode cX4_lets 10 = .ok (.iload_n 2, 1) := by decide +kernel
theorem dX4_lets_11 : decode cX4_lets 11 = .ok (.iadd, 1) := by decide +kernel
theorem dX4_lets_12 : decode cX4_lets 12 = .ok (.iload_n 3, 1) := by decide +kernel
theorem dX4_lets_13 : decode cX4_lets 13 = .ok (.iastore, 1) := by decide +kernel
theorem dX4_lets_14 : decode cX4_lets 14 = .ok (.return_, 1) := by decide +kernel
theorem dX4_bits_0 : decode cX4_bits 0 = .ok (.iconst 0, 1) := by decide +kernel
theorem dX4_bits_1 : decode cX4_bits 1 = .ok (.istore_n 1, 1) := by decide +kernel
theorem dX4_bits_2 : decode cX4_bits 2 = .ok (.iload_n 0, 1) := by decide +kernel
theorem dX4_bits_3 : decode cX4_bits 3 = .ok (.istore_n 2, 1) := by decide +kernel
theorem dX4_bits_4 : decode cX4_bits 4 = .ok (.iload_n 2, 1) := by decide +kernel
theorem dX4_bits_5 : decode cX4_bits 5 = .ok (.ifCond .eq 15, 3) := by decide +kernel
theorem dX4_bits_8 : decode cX4_bits 8 = .ok (.iinc 1 1, 3) := by decide +kernel
theorem dX4_bits_11 : decode cX4_bits 11 = .ok (.iload_n 2, 1) := by decide +kernel
theorem dX4_bits_12 : decode cX4_bits 12 = .ok (.iload_n 2, 1) := by decide +kernel
theorem dX4_bits_13 : decode cX4_bits 13 = .ok (.iconst 1, 1) := by decide +kernel
theorem dX4_bits_14 : decode cX4_bits 14 = .ok (.isub, 1) := by decide +kernel
theorem dX4_bits_15 : decode cX4_bits 15 = .ok (.iand, 1) := by decide +kernel
theorem dX4_bits_16 : decode cX4_bits 16 = .ok (.istore_n 2, 1) := by decide +kernel
theorem dX4_bits_17 : decode cX4_bits 17 = .ok (.goto (-13), 3) := by decide +kernel
theorem dX4_bits_20 : decode cX4_bits 20 = .ok (.iload_n 1, 1) := by decide +kernel
theorem dX4_bits_21 : decode cX4_bits 21 = .ok (.ireturn, 1) := by decide +kernel
theorem dX4_isAnotherFor_0 : decode cX4_isAnotherFor 0 = .ok (.iconst 0, 1) := by decide +kernel
theorem dX4_isAnotherFor_1 : decode cX4_isAnotherFor 1 = .ok (.istore_n 3, 1) := by decide +kernel
theorem dX4_isAnotherFor_2 : decode cX4_isAnotherFor 2 = .ok (.iconst 0, 1) := by decide +kernel
theorem dX4_isAnotherFor_3 : decode cX4_isAnotherFor 3 = .ok (.istore 4, 2) := by decide +kernel
theorem dX4_isAnotherFor_5 : decode cX4_isAnotherFor 5 = .ok (.iload 4, 2) := by decide +kernel
theorem dX4_isAnotherFor_7 : decode cX4_isAnotherFor 7 = .ok (.aload_n 0, 1) := by decide +kernel
theorem dX4_isAnotherFor_8 : decode cX4_isAnotherFor 8 = .ok (.getfield 9, 3) := by decide +kernel
theorem dX4_isAnotherFor_11 : decode cX4_isAnotherFor 11 = .ok (.iconst 3, 1) := by decide +kernel
theorem dX4_isAnotherFor_12 : decode cX4_isAnotherFor 12 = .ok (.iaload, 1) := by decide +kernel
theorem dX4_isAnotherFor_13 : decode cX4_isAnotherFor 13 = .ok (.if_icmp .ge 36, 3) := by decide +kernel
theorem dX4_isAnotherFor_16 : decode cX4_isAnotherFor 16 = .ok (.iload_n 3, 1) := by decide +kernel
theorem dX4_isAnotherFor_17 : decode cX4_isAnotherFor 17 = .ok (.ifCond .ne 20, 3) := by decide +kernel
theorem dX4_isAnotherFor_20 : decode cX4_isAnotherFor 20 = .ok (.iload 4, 2) := by decide +kernel
theorem dX4_isAnotherFor_22 : decode cX4_isAnotherFor 22 = .ok (.iload_n 1, 1) := by decide +kernel
theorem dX4_isAnotherFor_23 : decode cX4_isAnotherFor 23 = .ok (.if_icmp .eq 18, 3) := by decide +kernel
theorem dX4_isAnotherFor_26 : decode cX4_isAnotherFor 26 = .ok (.aload_n 0, 1) := by decide +kernel
theorem dX4_isAnotherFor_27 : decode cX4_isAnotherFor 27 = .ok (.iload 4, 2) := by decide +kernel
theorem dX4_isAnotherFor_29 : decode cX4_isAnotherFor 29 = .ok (.iconst 1, 1) := by decide +kernel
theorem dX4_isAnotherFor_30 : decode cX4_isAnotherFor 30 = .ok (.invokevirtual 44, 3) := by decide +kernel
theorem dX4_isAnotherFor_33 : decode cX4_isAnotherFor 33 = .ok (.iload_n 2, 1) := by decide +kernel
theorem dX4_isAnotherFor_34 : decode cX4_isAnotherFor 34 = .ok (.if_icmp .ne 7, 3) := by decide +kernel
theorem dX4_isAnotherFor_37 : decode cX4_isAnotherFor 37 = .ok (.iconst 1, 1) := by decide +kernel
theorem dX4_isAnotherFor_38 : decode cX4_isAnotherFor 38 = .ok (.goto 4, 3) := by decide +kernel
theorem dX4_isAnotherFor_41 : decode cX4_isAnotherFor 41 = .ok (.iconst 0, 1) := by decide +kernel
theorem dX4_isAnotherFor_42 : decode cX4_isAnotherFor 42 = .ok (.istore_n 3, 1) := by decide +kernel
theorem dX4_isAnotherFor_43 : decode cX4_isAnotherFor 43 = .ok (.iinc 4 1, 3) := by decide +kernel
theorem dX4_isAnotherFor_46 : decode cX4_isAnotherFor 46 = .ok (.goto (-41), 3) := by decide +kernel
theorem dX4_isAnotherFor_49 : decode cX4_isAnotherFor 49 = .ok (.iload_n 3, 1) := by decide +kernel
theorem dX4_isAnotherFor_50 : decode cX4_isAnotherFor 50 = .ok (.ireturn, 1) := by decide +kernel
theorem dX4_isLeft_0 : decode cX4_isLeft 0 = .ok (.aload_n 0, 1) := by decide +kernel
theorem dX4_isLeft_1 : decode cX4_isLeft 1 = .ok (.iload_n 1, 1) := by decide +kernel
theorem dX4_isLeft_2 : decode cX4_isLeft 2 = .ok (.iconst 0, 1) := by decide +kernel
theorem dX4_isLeft_3 : decode cX4_isLeft 3 = .ok (.invokevirtual 44, 3) := by decide +kernel
theorem dX4_isLeft_6 : decode cX4_isLeft 6 = .ok (.istore_n 3, 1) := by decide +kernel
theorem dX4_isLeft_7 : decode cX4_isLeft 7 = .ok (.iload_n 3, 1) := by decide +kernel
theorem dX4_isLeft_8 : decode cX4_isLeft 8 = .ok (.iconst 2, 1) := by decide +kernel
theorem dX4_isLeft_9 : decode cX4_isLeft 9 = .ok (.irem, 1) := by decide +kernel
theorem dX4_isLeft_10 : decode cX4_isLeft 10 = .ok (.ifCond .ne 7, 3) := by decide +kernel
theorem dX4_isLeft_13 : decode cX4_isLeft 13 = .ok (.iconst 1, 1) := by decide +kernel
theorem dX4_isLeft_14 : decode cX4_isLeft 14 = .ok (.goto 4, 3) := by decide +kernel
theorem dX4_isLeft_17 : decode cX4_isLeft 17 = .ok (.iconst 0, 1) := by decide +kernel
theorem dX4_isLeft_18 : decode cX4_isLeft 18 = .ok (.istore 4, 2) := by decide +kernel
theorem dX4_isLeft_20 : decode cX4_isLeft 20 = .ok (.aload_n 0, 1) := by decide +kernel
theorem dX4_isLeft_21 : decode cX4_isLeft 21 = .ok (.iload_n 2, 1) := by decide +kernel
theorem dX4_isLeft_22 : decode cX4_isLeft 22 = .ok (.iconst 0, 1) := by decide +kernel
theorem dX4_isLeft_23 : decode cX4_isLeft 23 = .ok (.invokevirtual 48, 3) := by decide +kernel
theorem dX4_isLeft_26 : decode cX4_isLeft 26 = .ok (.tableswitch 125 1 6 #[38, 68, 80, 106, 123, 41], 38) := by decide +kernel
theorem dX4_isLeft_64 : decode cX4_isLeft 64 = .ok (.iload 4, 2) := by decide +kernel
theorem dX4_isLeft_66 : decode cX4_isLeft 66 = .ok (.ireturn, 1) := by decide +kernel
theorem dX4_isLeft_67 : decode cX4_isLeft 67 = .ok (.aload_n 0, 1) := by decide +kernel
theorem dX4_isLeft_68 : decode cX4_isLeft 68 = .ok (.iload_n 2, 1) := by decide +kernel
theorem dX4_isLeft_69 : decode cX4_isLeft 69 = .ok (.iconst 4, 1) := by decide +kernel
theorem dX4_isLeft_70 : decode cX4_isLeft 70 = .ok (.invokevirtual 48, 3) := by decide +kernel
theorem dX4_isLeft_73 : decode cX4_isLeft 73 = .ok (.iconst 2, 1) := by decide +kernel
theorem dX4_isLeft_74 : decode cX4_isLeft 74 = .ok (.irem, 1) := by decide +kernel
theorem dX4_isLeft_75 : decode cX4_isLeft 75 = .ok (.ifCond .ne 8, 3) := by decide +kernel
theorem dX4_isLeft_78 : decode cX4_isLeft 78 = .ok (.iload 4, 2) := by decide +kernel
theorem dX4_isLeft_80 : decode cX4_isLeft 80 = .ok (.goto 13, 3) := by decide +kernel
theorem dX4_isLeft_83 : decode cX4_isLeft 83 = .ok (.iload 4, 2) := by decide +kernel
theorem dX4_isLeft_85 : decode cX4_isLeft 85 = .ok (.ifCond .ne 7, 3) := by decide +kernel
theorem dX4_isLeft_88 : decode cX4_isLeft 88 = .ok (.iconst 1, 1) := by decide +kernel
theorem dX4_isLeft_89 : decode cX4_isLeft 89 = .ok (.goto 4, 3) := by decide +kernel
theorem dX4_isLeft_92 : decode cX4_isLeft 92 = .ok (.iconst 0, 1) := by decide +kernel
theorem dX4_isLeft_93 : decode cX4_isLeft 93 = .ok (.ireturn, 1) := by decide +kernel
theorem dX4_isLeft_94 : decode cX4_isLeft 94 = .ok (.iload_n 3, 1) := by decide +kernel
theorem dX4_isLeft_95 : decode cX4_isLeft 95 = .ok (.bipush 30, 2) := by decide +kernel
theorem dX4_isLeft_97 : decode cX4_isLeft 97 = .ok (.if_icmp .ge 7, 3) := by decide +kernel
theorem dX4_isLeft_100 : decode cX4_isLeft 100 = .ok (.iconst 1, 1) := by decide +kernel
theorem dX4_isLeft_101 : decode cX4_isLeft 101 = .ok (.goto 4, 3) := by decide +kernel
theorem dX4_isLeft_104 : decode cX4_isLeft 104 = .ok (.iconst 0, 1) := by decide +kernel
theorem dX4_isLeft_105 : decode cX4_isLeft 105 = .ok (.ireturn, 1) := by decide +kernel
theorem dX4_isLeft_106 : decode cX4_isLeft 106 = .ok (.iload_n 3, 1) := by decide +kernel
theorem dX4_isLeft_107 : decode cX4_isLeft 107 = .ok (.bipush 30, 2) := by decide +kernel
theorem dX4_isLeft_109 : decode cX4_isLeft 109 = .ok (.if_icmp .lt 17, 3) := by decide +kernel
theorem dX4_isLeft_112 : decode cX4_isLeft 112 = .ok (.aload_n 0, 1) := by decide +kernel
theorem dX4_isLeft_113 : decode cX4_isLeft 113 = .ok (.iload_n 1, 1) := by decide +kernel
theorem dX4_isLeft_114 : decode cX4_isLeft 114 = .ok (.aload_n 0, 1) := by decide +kernel
theorem dX4_isLeft_115 : decode cX4_isLeft 115 = .ok (.iload_n 2, 1) := by decide +kernel
theorem dX4_isLeft_116 : decode cX4_isLeft 116 = .ok (.iconst 2, 1) := by decide +kernel
theorem dX4_isLeft_117 : decode cX4_isLeft 117 = .ok (.invokevirtual 48, 3) := by decide +kernel
theorem dX4_isLeft_120 : decode cX4_isLeft 120 = .ok (.invokevirtual 51, 3) := by decide +kernel
theorem dX4_isLeft_123 : decode cX4_isLeft 123 = .ok (.ifCond .eq 7, 3) := by decide +kernel
theorem dX4_isLeft_126 : decode cX4_isLeft 126 = .ok (.iconst 1, 1) := by decide +kernel
theorem dX4_isLeft_127 : decode cX4_isLeft 127 = .ok (.goto 4, 3) := by decide +kernel
theorem dX4_isLeft_130 : decode cX4_isLeft 130 = .ok (.iconst 0, 1) := by decide +kernel
theorem dX4_isLeft_131 : decode cX4_isLeft 131 = .ok (.ireturn, 1) := by decide +kernel
theorem dX4_isLeft_132 : decode cX4_isLeft 132 = .ok (.aload_n 0, 1) := by decide +kernel
theorem dX4_isLeft_133 : decode cX4_isLeft 133 = .ok (.iload_n 2, 1) := by decide +kernel
theorem dX4_isLeft_134 : decode cX4_isLeft 134 = .ok (.iconst 4, 1) := by decide +kernel
theorem dX4_isLeft_135 : decode cX4_isLeft 135 = .ok (.invokevirtual 48, 3) := by decide +kernel
theorem dX4_isLeft_138 : decode cX4_isLeft 138 = .ok (.iconst 2, 1) := by decide +kernel
theorem dX4_isLeft_139 : decode cX4_isLeft 139 = .ok (.irem, 1) := by decide +kernel
theorem dX4_isLeft_140 : decode cX4_isLeft 140 = .ok (.ifCond .ne 7, 3) := by decide +kernel
theorem dX4_isLeft_143 : decode cX4_isLeft 143 = .ok (.iconst 1, 1) := by decide +kernel
theorem dX4_isLeft_144 : decode cX4_isLeft 144 = .ok (.goto 4, 3) := by decide +kernel
theorem dX4_isLeft_147 : decode cX4_isLeft 147 = .ok (.iconst 0, 1) := by decide +kernel
theorem dX4_isLeft_148 : decode cX4_isLeft 148 = .ok (.ireturn, 1) := by decide +kernel
theorem dX4_isLeft_149 : decode cX4_isLeft 149 = .ok (.iconst 1, 1) := by decide +kernel
theorem dX4_isLeft_150 : decode cX4_isLeft 150 = .ok (.ireturn, 1) := by decide +kernel
theorem dX4_isLeft_151 : decode cX4_isLeft 151 = .ok (.iload_n 3, 1) := by decide +kernel
theorem dX4_isLeft_152 : decode cX4_isLeft 152 = .ok (.bipush 50, 2) := by decide +kernel
theorem dX4_isLeft_154 : decode cX4_isLeft 154 = .ok (.if_icmp .ge 7, 3) := by decide +kernel
theorem dX4_isLeft_157 : decode cX4_isLeft 157 = .ok (.iconst 1, 1) := by decide +kernel
theorem dX4_isLeft_158 : decode cX4_isLeft 158 = .ok (.goto 4, 3) := by decide +kernel
theorem dX4_isLeft_161 : decode cX4_isLeft 161 = .ok (.iconst 0, 1) := by decide +kernel
theorem dX4_isLeft_162 : decode cX4_isLeft 162 = .ok (.ireturn, 1) := by decide +kernel
theorem dX4_bends_0 : decode cX4_bends 0 = .ok (.iload_n 2, 1) := by decide +kernel
theorem dX4_bends_1 : decode cX4_bends 1 = .ok (.ifCond .eq 8, 3) := by decide +kernel
theorem dX4_bends_4 : decode cX4_bends 4 = .ok (.bipush (-5), 2) := by decide +kernel
theorem dX4_bends_6 : decode cX4_bends 6 = .ok (.goto 4, 3) := by decide +kernel
theorem dX4_bends_9 : decode cX4_bends 9 = .ok (.iconst 5, 1) := by decide +kernel
theorem dX4_bends_10 : decode cX4_bends 10 = .ok (.istore_n 3, 1) := by decide +kernel
theorem dX4_bends_11 : decode cX4_bends 11 = .ok (.aload_n 0, 1) := by decide +kernel
theorem dX4_bends_12 : decode cX4_bends 12 = .ok (.iload_n 1, 1) := by decide +kernel
theorem dX4_bends_13 : decode cX4_bends 13 = .ok (.iconst 0, 1) := by decide +kernel
theorem dX4_bends_14 : decode cX4_bends 14 = .ok (.invokevirtual 48, 3) := by decide +kernel
theorem dX4_bends_17 : decode cX4_bends 17 = .ok (.tableswitch 63 1 6 #[39, 45, 49, 55, 61, 43], 39) := by decide +kernel
theorem dX4_bends_56 : decode cX4_bends 56 = .ok (.iload_n 3, 1) := by decide +kernel
theorem dX4_bends_57 : decode cX4_bends 57 = .ok (.iconst 1, 1) := by decide +kernel
theorem dX4_bends_58 : decode cX4_bends 58 = .ok (.isub, 1) := by decide +kernel
theorem dX4_bends_59 : decode cX4_bends 59 = .ok (.ireturn, 1) := by decide +kernel
theorem dX4_bends_60 : decode cX4_bends 60 = .ok (.iconst 1, 1) := by decide +kernel
theorem dX4_bends_61 : decode cX4_bends 61 = .ok (.ireturn, 1) := by decide +kernel
theorem dX4_bends_62 : decode cX4_bends 62 = .ok (.iconst 2, 1) := by decide +kernel
theorem dX4_bends_63 : decode cX4_bends 63 = .ok (.iload_n 3, 1) := by decide +kernel
theorem dX4_bends_64 : decode cX4_bends 64 = .ok (.imul, 1) := by decide +kernel
theorem dX4_bends_65 : decode cX4_bends 65 = .ok (.ireturn, 1) := by decide +kernel
theorem dX4_bends_66 : decode cX4_bends 66 = .ok (.iconst 2, 1) := by decide +kernel
theorem dX4_bends_67 : decode cX4_bends 67 = .ok (.iload_n 3, 1) := by decide +kernel
theorem dX4_bends_68 : decode cX4_bends 68 = .ok (.imul, 1) := by decide +kernel
theorem dX4_bends_69 : decode cX4_bends 69 = .ok (.iconst 3, 1) := by decide +kernel
theorem dX4_bends_70 : decode cX4_bends 70 = .ok (.iadd, 1) := by decide +kernel
theorem dX4_bends_71 : decode cX4_bends 71 = .ok (.ireturn, 1) := by decide +kernel
theorem dX4_bends_72 : decode cX4_bends 72 = .ok (.iconst 3, 1) := by decide +kernel
theorem dX4_bends_73 : decode cX4_bends 73 = .ok (.iconst 2, 1) := by decide +kernel
theorem dX4_bends_74 : decode cX4_bends 74 = .ok (.iload_n 3, 1) := by decide +kernel
theorem dX4_bends_75 : decode cX4_bends 75 = .ok (.imul, 1) := by decide +kernel
theorem dX4_bends_76 : decode cX4_bends 76 = .ok (.isub, 1) := by decide +kernel
theorem dX4_bends_77 : decode cX4_bends 77 = .ok (.ireturn, 1) := by decide +kernel
theorem dX4_bends_78 : decode cX4_bends 78 = .ok (.iconst 0, 1) := by decide +kernel
theorem dX4_bends_79 : decode cX4_bends 79 = .ok (.ireturn, 1) := by decide +kernel
theorem dX4_bends_80 : decode cX4_bends 80 = .ok (.iload_n 3, 1) := by decide +kernel
theorem dX4_bends_81 : decode cX4_bends 81 = .ok (.ireturn, 1) := by decide +kernel
theorem dX4_costs_0 : decode cX4_costs 0 = .ok (.aload_n 0, 1) := by decide +kernel
theorem dX4_costs_1 : decode cX4_costs 1 = .ok (.iload_n 2, 1) := by decide +kernel
theorem dX4_costs_2 : decode cX4_costs 2 = .ok (.iconst 3, 1) := by decide +kernel
theorem dX4_costs_3 : decode cX4_costs 3 = .ok (.invokevirtual 48, 3) := by decide +kernel
theorem dX4_costs_6 : decode cX4_costs 6 = .ok (.istore 4, 2) := by decide +kernel
theorem dX4_costs_8 : decode cX4_costs 8 = .ok (.iload 4, 2) := by decide +kernel
theorem dX4_costs_10 : decode cX4_costs 10 = .ok (.aload_n 0, 1) := by decide +kernel
theorem dX4_costs_11 : decode cX4_costs 11 = .ok (.iload_n 1, 1) := by decide +kernel
theorem dX4_costs_12 : decode cX4_costs 12 = .ok (.iconst 0, 1) := by decide +kernel
theorem dX4_costs_13 : decode cX4_costs 13 = .ok (.invokevirtual 44, 3) := by decide +kernel
theorem dX4_costs_16 : decode cX4_costs 16 = .ok (.bipush 10, 2) := by decide +kernel
theorem dX4_costs_18 : decode cX4_costs 18 = .ok (.idiv, 1) := by decide +kernel
theorem dX4_costs_19 : decode cX4_costs 19 = .ok (.iadd, 1) := by decide +kernel
theorem dX4_costs_20 : decode cX4_costs 20 = .ok (.istore 5, 2) := by decide +kernel
theorem dX4_costs_22 : decode cX4_costs 22 = .ok (.aload_n 0, 1) := by decide +kernel
theorem dX4_costs_23 : decode cX4_costs 23 = .ok (.iload_n 2, 1) := by decide +kernel
theorem dX4_costs_24 : decode cX4_costs 24 = .ok (.iconst 0, 1) := by decide +kernel
theorem dX4_costs_25 : decode cX4_costs 25 = .ok (.invokevirtual 48, 3) := by decide +kernel
theorem dX4_costs_28 : decode cX4_costs 28 = .ok (.tableswitch 79 1 6 #[40, 57, 60, 65, 79, 55], 40) := by decide +kernel
theorem dX4_costs_68 : decode cX4_costs 68 = .ok (.iload 4, 2) := by decide +kernel
theorem dX4_costs_70 : decode cX4_costs 70 = .ok (.iconst 2, 1) := by decide +kernel
theorem dX4_costs_71 : decode cX4_costs 71 = .ok (.if_icmp .le 10, 3) := by decide +kernel
theorem dX4_costs_74 : decode cX4_costs 74 = .ok (.iload 4, 2) := by decide +kernel
theorem dX4_costs_76 : decode cX4_costs 76 = .ok (.iconst 2, 1) := by decide +kernel
theorem dX4_costs_77 : decode cX4_costs 77 = .ok (.isub, 1) := by decide +kernel
theorem dX4_costs_78 : decode cX4_costs 78 = .ok (.goto 4, 3) := by decide +kernel
theorem dX4_costs_81 : decode cX4_costs 81 = .ok (.iconst 0, 1) := by decide +kernel
theorem dX4_costs_82 : decode cX4_costs 82 = .ok (.ireturn, 1) := by decide +kernel
theorem dX4_costs_83 : decode cX4_costs 83 = .ok (.iconst 1, 1) := by decide +kernel
theorem dX4_costs_84 : decode cX4_costs 84 = .ok (.ireturn, 1) := by decide +kernel
theorem dX4_costs_85 : decode cX4_costs 85 = .ok (.iload 5, 2) := by decide +kernel
theorem dX4_costs_87 : decode cX4_costs 87 = .ok (.ireturn, 1) := by decide +kernel
theorem dX4_costs_88 : decode cX4_costs 88 = .ok (.iconst 2, 1) := by decide +kernel
theorem dX4_costs_89 : decode cX4_costs 89 = .ok (.iload 5, 2) := by decide +kernel
theorem dX4_costs_91 : decode cX4_costs 91 = .ok (.imul, 1) := by decide +kernel
theorem dX4_costs_92 : decode cX4_costs 92 = .ok (.ireturn, 1) := by decide +kernel
theorem dX4_costs_93 : decode cX4_costs 93 = .ok (.iload_n 3, 1) := by decide +kernel
theorem dX4_costs_94 : decode cX4_costs 94 = .ok (.ifCond .eq 10, 3) := by decide +kernel
theorem dX4_costs_97 : decode cX4_costs 97 = .ok (.iconst 2, 1) := by decide +kernel
theorem dX4_costs_98 : decode cX4_costs 98 = .ok (.iload 5, 2) := by decide +kernel
theorem dX4_costs_100 : decode cX4_costs 100 = .ok (.imul, 1) := by decide +kernel
theorem dX4_costs_101 : decode cX4_costs 101 = .ok (.goto 5, 3) := by decide +kernel
theorem dX4_costs_104 : decode cX4_costs 104 = .ok (.iload 5, 2) := by decide +kernel
theorem dX4_costs_106 : decode cX4_costs 106 = .ok (.ireturn, 1) := by decide +kernel
theorem dX4_costs_107 : decode cX4_costs 107 = .ok (.iload 4, 2) := by decide +kernel
theorem dX4_costs_109 : decode cX4_costs 109 = .ok (.ireturn, 1) := by decide +kernel
theorem dX4_list_0 : decode cX4_list 0 = .ok (.iload_n 1, 1) := by decide +kernel
theorem dX4_list_1 : decode cX4_list 1 = .ok (.invokestatic 55, 3) := by decide +kernel
theorem dX4_list_4 : decode cX4_list 4 = .ok (.ifCond .eq 38, 3) := by decide +kernel
theorem dX4_list_7 : decode cX4_list 7 = .ok (.iload_n 2, 1) := by decide +kernel
theorem dX4_list_8 : decode cX4_list 8 = .ok (.iconst 0, 1) := by decide +kernel
theorem dX4_list_9 : decode cX4_list 9 = .ok (.iconst 5, 1) := by decide +kernel
theorem dX4_list_10 : decode cX4_list 10 = .ok (.invokestatic 40, 3) := by decide +kernel
theorem dX4_list_13 : decode cX4_list 13 = .ok (.ifCond .eq 29, 3) := by decide +kernel
theorem dX4_list_16 : decode cX4_list 16 = .ok (.iload_n 3, 1) := by decide +kernel
theorem dX4_list_17 : decode cX4_list 17 = .ok (.iconst 0, 1) := by decide +kernel
theorem dX4_list_18 : decode cX4_list 18 = .ok (.bipush 7, 2) := by decide +kernel
theorem dX4_list_20 : decode cX4_list 20 = .ok (.invokestatic 40, 3) := by decide +kernel
theorem dX4_list_23 : decode cX4_list 23 = .ok (.ifCond .eq 19, 3) := by decide +kernel
theorem dX4_list_26 : decode cX4_list 26 = .ok (.aload_n 0, 1) := by decide +kernel
theorem dX4_list_27 : decode cX4_list 27 = .ok (.iconst 4, 1) := by decide +kernel
theorem dX4_list_28 : decode cX4_list 28 = .ok (.iload_n 1, 1) := by decide +kernel
theorem dX4_list_29 : decode cX4_list 29 = .ok (.iadd, 1) := by decide +kernel
theorem dX4_list_30 : decode cX4_list 30 = .ok (.bipush 10, 2) := by decide +kernel
theorem dX4_list_32 : decode cX4_list 32 = .ok (.iload_n 2, 1) := by decide +kernel
theorem dX4_list_33 : decode cX4_list 33 = .ok (.imul, 1) := by decide +kernel
theorem dX4_list_34 : decode cX4_list 34 = .ok (.iload_n 3, 1) := by decide +kernel
theorem dX4_list_35 : decode cX4_list 35 = .ok (.iadd, 1) := by decide +kernel
theorem dX4_list_36 : decode cX4_list 36 = .ok (.invokevirtual 59, 3) := by decide +kernel
theorem dX4_list_39 : decode cX4_list 39 = .ok (.goto 9, 3) := by decide +kernel
theorem dX4_list_42 : decode cX4_list 42 = .ok (.aload_n 0, 1) := by decide +kernel
theorem dX4_list_43 : decode cX4_list 43 = .ok (.ldc 34, 2) := by decide +kernel
theorem dX4_list_45 : decode cX4_list 45 = .ok (.invokevirtual 36, 3) := by decide +kernel
theorem dX4_list_48 : decode cX4_list 48 = .ok (.ireturn, 1) := by decide +kernel
theorem dX4_listed_0 : decode cX4_listed 0 = .ok (.iload_n 1, 1) := by decide +kernel
theorem dX4_listed_1 : decode cX4_listed 1 = .ok (.invokestatic 55, 3) := by decide +kernel
theorem dX4_listed_4 : decode cX4_listed 4 = .ok (.ifCond .eq 14, 3) := by decide +kernel
theorem dX4_listed_7 : decode cX4_listed 7 = .ok (.aload_n 0, 1) := by decide +kernel
theorem dX4_listed_8 : decode cX4_listed 8 = .ok (.getfield 9, 3) := by decide +kernel
theorem dX4_listed_11 : decode cX4_listed 11 = .ok (.iconst 4, 1) := by decide +kernel
theorem dX4_listed_12 : decode cX4_listed 12 = .ok (.iload_n 1, 1) := by decide +kernel
theorem dX4_listed_13 : decode cX4_listed 13 = .ok (.iadd, 1) := by decide +kernel
theorem dX4_listed_14 : decode cX4_listed 14 = .ok (.iaload, 1) := by decide +kernel
theorem dX4_listed_15 : decode cX4_listed 15 = .ok (.goto 9, 3) := by decide +kernel
theorem dX4_listed_18 : decode cX4_listed 18 = .ok (.aload_n 0, 1) := by decide +kernel
theorem dX4_listed_19 : decode cX4_listed 19 = .ok (.ldc 34, 2) := by decide +kernel
theorem dX4_listed_21 : decode cX4_listed 21 = .ok (.invokevirtual 36, 3) := by decide +kernel
theorem dX4_listed_24 : decode cX4_listed 24 = .ok (.ireturn, 1) := by decide +kernel
theorem dX4_comes_0 : decode cX4_comes 0 = .ok (.aload_n 0, 1) := by decide +kernel
theorem dX4_comes_1 : decode cX4_comes 1 = .ok (.getfield 9, 3) := by decide +kernel
theorem dX4_comes_4 : decode cX4_comes 4 = .ok (.iconst 2, 1) := by decide +kernel
theorem dX4_comes_5 : decode cX4_comes 5 = .ok (.iaload, 1) := by decide +kernel
theorem dX4_comes_6 : decode cX4_comes 6 = .ok (.istore 4, 2) := by decide +kernel
theorem dX4_comes_8 : decode cX4_comes 8 = .ok (.aload_n 0, 1) := by decide +kernel
theorem dX4_comes_9 : decode cX4_comes 9 = .ok (.getfield 9, 3) := by decide +kernel
theorem dX4_comes_12 : decode cX4_comes 12 = .ok (.iconst 2, 1) := by decide +kernel
theorem dX4_comes_13 : decode cX4_comes 13 = .ok (.dup2, 1) := by decide +kernel
theorem dX4_comes_14 : decode cX4_comes 14 = .ok (.iaload, 1) := by decide +kernel
theorem dX4_comes_15 : decode cX4_comes 15 = .ok (.iconst 1, 1) := by decide +kernel
theorem dX4_comes_16 : decode cX4_comes 16 = .ok (.iadd, 1) := by decide +kernel
theorem dX4_comes_17 : decode cX4_comes 17 = .ok (.iastore, 1) := by decide +kernel
theorem dX4_comes_18 : decode cX4_comes 18 = .ok (.aload_n 0, 1) := by decide +kernel
theorem dX4_comes_19 : decode cX4_comes 19 = .ok (.iload 4, 2) := by decide +kernel
theorem dX4_comes_21 : decode cX4_comes 21 = .ok (.iconst 0, 1) := by decide +kernel
theorem dX4_comes_22 : decode cX4_comes 22 = .ok (.iload_n 1, 1) := by decide +kernel
theorem dX4_comes_23 : decode cX4_comes 23 = .ok (.invokevirtual 62, 3) := by decide +kernel
theorem dX4_comes_26 : decode cX4_comes 26 = .ok (.aload_n 0, 1) := by decide +kernel
theorem dX4_comes_27 : decode cX4_comes 27 = .ok (.iload 4, 2) := by decide +kernel
theorem dX4_comes_29 : decode cX4_comes 29 = .ok (.iconst 1, 1) := by decide +kernel
theorem dX4_comes_30 : decode cX4_comes 30 = .ok (.iload_n 2, 1) := by decide +kernel
theorem dX4_comes_31 : decode cX4_comes 31 = .ok (.invokevirtual 62, 3) := by decide +kernel
theorem dX4_comes_34 : decode cX4_comes 34 = .ok (.aload_n 0, 1) := by decide +kernel
theorem dX4_comes_35 : decode cX4_comes 35 = .ok (.iload 4, 2) := by decide +kernel
theorem dX4_comes_37 : decode cX4_comes 37 = .ok (.iconst 2, 1) := by decide +kernel
theorem dX4_comes_38 : decode cX4_comes 38 = .ok (.iload_n 3, 1) := by decide +kernel
theorem dX4_comes_39 : decode cX4_comes 39 = .ok (.invokevirtual 62, 3) := by decide +kernel
theorem dX4_comes_42 : decode cX4_comes 42 = .ok (.aload_n 0, 1) := by decide +kernel
theorem dX4_comes_43 : decode cX4_comes 43 = .ok (.iload 4, 2) := by decide +kernel
theorem dX4_comes_45 : decode cX4_comes 45 = .ok (.iconst 3, 1) := by decide +kernel
theorem dX4_comes_46 : decode cX4_comes 46 = .ok (.bipush 10, 2) := by decide +kernel
theorem dX4_comes_48 : decode cX4_comes 48 = .ok (.invokevirtual 62, 3) := by decide +kernel
theorem dX4_comes_51 : decode cX4_comes 51 = .ok (.aload_n 0, 1) := by decide +kernel
theorem dX4_comes_52 : decode cX4_comes 52 = .ok (.iload 4, 2) := by decide +kernel
theorem dX4_comes_54 : decode cX4_comes 54 = .ok (.iconst 4, 1) := by decide +kernel
theorem dX4_comes_55 : decode cX4_comes 55 = .ok (.iconst 0, 1) := by decide +kernel
theorem dX4_comes_56 : decode cX4_comes 56 = .ok (.invokevirtual 62, 3) := by decide +kernel
theorem dX4_comes_59 : decode cX4_comes 59 = .ok (.aload_n 0, 1) := by decide +kernel
theorem dX4_comes_60 : decode cX4_comes 60 = .ok (.iload 4, 2) := by decide +kernel
theorem dX4_comes_62 : decode cX4_comes 62 = .ok (.iconst 5, 1) := by decide +kernel
theorem dX4_comes_63 : decode cX4_comes 63 = .ok (.iconst 0, 1) := by decide +kernel
theorem dX4_comes_64 : decode cX4_comes 64 = .ok (.invokevirtual 62, 3) := by decide +kernel
theorem dX4_comes_67 : decode cX4_comes 67 = .ok (.iload 4, 2) := by decide +kernel
theorem dX4_comes_69 : decode cX4_comes 69 = .ok (.ireturn, 1) := by decide +kernel
theorem dX4_dish_0 : decode cX4_dish 0 = .ok (.iload_n 1, 1) := by decide +kernel
theorem dX4_dish_1 : decode cX4_dish 1 = .ok (.iconst 0, 1) := by decide +kernel
theorem dX4_dish_2 : decode cX4_dish 2 = .ok (.bipush 6, 2) := by decide +kernel
theorem dX4_dish_4 : decode cX4_dish 4 = .ok (.invokestatic 40, 3) := by decide +kernel
theorem dX4_dish_7 : decode cX4_dish 7 = .ok (.ifCond .eq 17, 3) := by decide +kernel
theorem dX4_dish_10 : decode cX4_dish 10 = .ok (.iload_n 2, 1) := by decide +kernel
theorem dX4_dish_11 : decode cX4_dish 11 = .ok (.invokestatic 66, 3) := by decide +kernel
theorem dX4_dish_14 : decode cX4_dish 14 = .ok (.ifCond .eq 10, 3) := by decide +kernel
theorem dX4_dish_17 : decode cX4_dish 17 = .ok (.iload_n 3, 1) := by decide +kernel
theorem dX4_dish_18 : decode cX4_dish 18 = .ok (.invokestatic 66, 3) := by decide +kernel
theorem dX4_dish_21 : decode cX4_dish 21 = .ok (.ifCond .ne 10, 3) := by decide +kernel
theorem dX4_dish_24 : decode cX4_dish 24 = .ok (.aload_n 0, 1) := by decide +kernel
theorem dX4_dish_25 : decode cX4_dish 25 = .ok (.ldc 34, 2) := by decide +kernel
theorem dX4_dish_27 : decode cX4_dish 27 = .ok (.invokevirtual 36, 3) := by decide +kernel
theorem dX4_dish_30 : decode cX4_dish 30 = .ok (.ireturn, 1) := by decide +kernel
theorem dX4_dish_31 : decode cX4_dish 31 = .ok (.aload_n 0, 1) := by decide +kernel
theorem dX4_dish_32 : decode cX4_dish 32 = .ok (.getfield 9, 3) := by decide +kernel
theorem dX4_dish_35 : decode cX4_dish 35 = .ok (.iconst 2, 1) := by decide +kernel
theorem dX4_dish_36 : decode cX4_dish 36 = .ok (.iaload, 1) := by decide +kernel
theorem dX4_dish_37 : decode cX4_dish 37 = .ok (.bipush 8, 2) := by decide +kernel
theorem dX4_dish_39 : decode cX4_dish 39 = .ok (.if_icmp .ne 12, 3) := by decide +kernel
theorem dX4_dish_42 : decode cX4_dish 42 = .ok (.aload_n 0, 1) := by decide +kernel
theorem dX4_dish_43 : decode cX4_dish 43 = .ok (.ldc 69, 2) := by decide +kernel
theorem dX4_dish_45 : decode cX4_dish 45 = .ok (.invokevirtual 36, 3) := by decide +kernel
theorem dX4_dish_48 : decode cX4_dish 48 = .ok (.goto 10, 3) := by decide +kernel
theorem dX4_dish_51 : decode cX4_dish 51 = .ok (.aload_n 0, 1) := by decide +kernel
theorem dX4_dish_52 : decode cX4_dish 52 = .ok (.iload_n 1, 1) := by decide +kernel
theorem dX4_dish_53 : decode cX4_dish 53 = .ok (.iload_n 2, 1) := by decide +kernel
theorem dX4_dish_54 : decode cX4_dish 54 = .ok (.iload_n 3, 1) := by decide +kernel
theorem dX4_dish_55 : decode cX4_dish 55 = .ok (.invokevirtual 70, 3) := by decide +kernel
theorem dX4_dish_58 : decode cX4_dish 58 = .ok (.ireturn, 1) := by decide +kernel
theorem dX4_enters_0 : decode cX4_enters 0 = .ok (.aload_n 0, 1) := by decide +kernel
theorem dX4_enters_1 : decode cX4_enters 1 = .ok (.getfield 9, 3) := by decide +kernel
theorem dX4_enters_4 : decode cX4_enters 4 = .ok (.iconst 3, 1) := by decide +kernel
theorem dX4_enters_5 : decode cX4_enters 5 = .ok (.iaload, 1) := by decide +kernel
theorem dX4_enters_6 : decode cX4_enters 6 = .ok (.istore_n 3, 1) := by decide +kernel
theorem dX4_enters_7 : decode cX4_enters 7 = .ok (.aload_n 0, 1) := by decide +kernel
theorem dX4_enters_8 : decode cX4_enters 8 = .ok (.getfield 9, 3) := by decide +kernel
theorem dX4_enters_11 : decode cX4_enters 11 = .ok (.iconst 3, 1) := by decide +kernel
theorem dX4_enters_12 : decode cX4_enters 12 = .ok (.dup2, 1) := by decide +kernel
theorem dX4_enters_13 : decode cX4_enters 13 = .ok (.iaload, 1) := by decide +kernel
theorem dX4_enters_14 : decode cX4_enters 14 = .ok (.iconst 1, 1) := by decide +kernel
theorem dX4_enters_15 : decode cX4_enters 15 = .ok (.iadd, 1) := by decide +kernel
theorem dX4_enters_16 : decode cX4_enters 16 = .ok (.iastore, 1) := by decide +kernel
theorem dX4_enters_17 : decode cX4_enters 17 = .ok (.aload_n 0, 1) := by decide +kernel
theorem dX4_enters_18 : decode cX4_enters 18 = .ok (.iload_n 3, 1) := by decide +kernel
theorem dX4_enters_19 : decode cX4_enters 19 = .ok (.iconst 0, 1) := by decide +kernel
theorem dX4_enters_20 : decode cX4_enters 20 = .ok (.iload_n 1, 1) := by decide +kernel
theorem dX4_enters_21 : decode cX4_enters 21 = .ok (.invokevirtual 74, 3) := by decide +kernel
theorem dX4_enters_24 : decode cX4_enters 24 = .ok (.aload_n 0, 1) := by decide +kernel
theorem dX4_enters_25 : decode cX4_enters 25 = .ok (.iload_n 3, 1) := by decide +kernel
theorem dX4_enters_26 : decode cX4_enters 26 = .ok (.iconst 1, 1) := by decide +kernel
theorem dX4_enters_27 : decode cX4_enters 27 = .ok (.iload_n 2, 1) := by decide +kernel
theorem dX4_enters_28 : decode cX4_enters 28 = .ok (.invokevirtual 74, 3) := by decide +kernel
theorem dX4_enters_31 : decode cX4_enters 31 = .ok (.aload_n 0, 1) := by decide +kernel
theorem dX4_enters_32 : decode cX4_enters 32 = .ok (.iload_n 3, 1) := by decide +kernel
theorem dX4_enters_33 : decode cX4_enters 33 = .ok (.iconst 2, 1) := by decide +kernel
theorem dX4_enters_34 : decode cX4_enters 34 = .ok (.iconst 0, 1) := by decide +kernel
theorem dX4_enters_35 : decode cX4_enters 35 = .ok (.invokevirtual 74, 3) := by decide +kernel
theorem dX4_enters_38 : decode cX4_enters 38 = .ok (.aload_n 0, 1) := by decide +kernel
theorem dX4_enters_39 : decode cX4_enters 39 = .ok (.iload_n 3, 1) := by decide +kernel
theorem dX4_enters_40 : decode cX4_enters 40 = .ok (.iconst 3, 1) := by decide +kernel
theorem dX4_enters_41 : decode cX4_enters 41 = .ok (.iconst 0, 1) := by decide +kernel
theorem dX4_enters_42 : decode cX4_enters 42 = .ok (.invokevirtual 74, 3) := by decide +kernel
theorem dX4_enters_45 : decode cX4_enters 45 = .ok (.aload_n 0, 1) := by decide +kernel
theorem dX4_enters_46 : decode cX4_enters 46 = .ok (.iload_n 3, 1) := by decide +kernel
theorem dX4_enters_47 : decode cX4_enters 47 = .ok (.iconst 4, 1) := by decide +kernel
theorem dX4_enters_48 : decode cX4_enters 48 = .ok (.iconst 0, 1) := by decide +kernel
theorem dX4_enters_49 : decode cX4_enters 49 = .ok (.invokevirtual 74, 3) := by decide +kernel
theorem dX4_enters_52 : decode cX4_enters 52 = .ok (.iload_n 3, 1) := by decide +kernel
theorem dX4_enters_53 : decode cX4_enters 53 = .ok (.ireturn, 1) := by decide +kernel
theorem dX4_guest_0 : decode cX4_guest 0 = .ok (.iload_n 1, 1) := by decide +kernel
theorem dX4_guest_1 : decode cX4_guest 1 = .ok (.iconst 0, 1) := by decide +kernel
theorem dX4_guest_2 : decode cX4_guest 2 = .ok (.bipush 99, 2) := by decide +kernel
theorem dX4_guest_4 : decode cX4_guest 4 = .ok (.invokestatic 40, 3) := by decide +kernel
theorem dX4_guest_7 : decode cX4_guest 7 = .ok (.ifCond .ne 10, 3) := by decide +kernel
theorem dX4_guest_10 : decode cX4_guest 10 = .ok (.aload_n 0, 1) := by decide +kernel
theorem dX4_guest_11 : decode cX4_guest 11 = .ok (.ldc 34, 2) := by decide +kernel
theorem dX4_guest_13 : decode cX4_guest 13 = .ok (.invokevirtual 36, 3) := by decide +kernel
theorem dX4_guest_16 : decode cX4_guest 16 = .ok (.ireturn, 1) := by decide +kernel
theorem dX4_guest_17 : decode cX4_guest 17 = .ok (.aload_n 0, 1) := by decide +kernel
theorem dX4_guest_18 : decode cX4_guest 18 = .ok (.getfield 9, 3) := by decide +kernel
theorem dX4_guest_21 : decode cX4_guest 21 = .ok (.iconst 3, 1) := by decide +kernel
theorem dX4_guest_22 : decode cX4_guest 22 = .ok (.iaload, 1) := by decide +kernel
theorem dX4_guest_23 : decode cX4_guest 23 = .ok (.bipush 6, 2) := by decide +kernel
theorem dX4_guest_25 : decode cX4_guest 25 = .ok (.if_icmp .ne 12, 3) := by decide +kernel
theorem dX4_guest_28 : decode cX4_guest 28 = .ok (.aload_n 0, 1) := by decide +kernel
theorem dX4_guest_29 : decode cX4_guest 29 = .ok (.ldc 69, 2) := by decide +kernel
theorem dX4_guest_31 : decode cX4_guest 31 = .ok (.invokevirtual 36, 3) := by decide +kernel
theorem dX4_guest_34 : decode cX4_guest 34 = .ok (.goto 9, 3) := by decide +kernel
theorem dX4_guest_37 : decode cX4_guest 37 = .ok (.aload_n 0, 1) := by decide +kernel
theorem dX4_guest_38 : decode cX4_guest 38 = .ok (.iload_n 1, 1) := by decide +kernel
theorem dX4_guest_39 : decode cX4_guest 39 = .ok (.iconst 0, 1) := by decide +kernel
theorem dX4_guest_40 : decode cX4_guest 40 = .ok (.invokevirtual 77, 3) := by decide +kernel
theorem dX4_guest_43 : decode cX4_guest 43 = .ok (.ireturn, 1) := by decide +kernel
theorem dX4_of_0 : decode cX4_of 0 = .ok (.aload_n 0, 1) := by decide +kernel
theorem dX4_of_1 : decode cX4_of 1 = .ok (.iload_n 1, 1) := by decide +kernel
theorem dX4_of_2 : decode cX4_of 2 = .ok (.invokevirtual 80, 3) := by decide +kernel
theorem dX4_of_5 : decode cX4_of 5 = .ok (.ifCond .eq 21, 3) := by decide +kernel
theorem dX4_of_8 : decode cX4_of 8 = .ok (.iload_n 2, 1) := by decide +kernel
theorem dX4_of_9 : decode cX4_of 9 = .ok (.iconst 0, 1) := by decide +kernel
theorem dX4_of_10 : decode cX4_of 10 = .ok (.iconst 5, 1) := by decide +kernel
theorem dX4_of_11 : decode cX4_of 11 = .ok (.invokestatic 40, 3) := by decide +kernel
theorem dX4_of_14 : decode cX4_of 14 = .ok (.ifCond .eq 12, 3) := by decide +kernel
theorem dX4_of_17 : decode cX4_of 17 = .ok (.aload_n 0, 1) := by decide +kernel
theorem dX4_of_18 : decode cX4_of 18 = .ok (.iload_n 1, 1) := by decide +kernel
theorem dX4_of_19 : decode cX4_of 19 = .ok (.iload_n 2, 1) := by decide +kernel
theorem dX4_of_20 : decode cX4_of 20 = .ok (.invokevirtual 48, 3) := by decide +kernel
theorem dX4_of_23 : decode cX4_of 23 = .ok (.goto 9, 3) := by decide +kernel
theorem dX4_of_26 : decode cX4_of 26 = .ok (.aload_n 0, 1) := by decide +kernel
theorem dX4_of_27 : decode cX4_of 27 = .ok (.ldc 34, 2) := by decide +kernel
theorem dX4_of_29 : decode cX4_of 29 = .ok (.invokevirtual 36, 3) := by decide +kernel
theorem dX4_of_32 : decode cX4_of 32 = .ok (.ireturn, 1) := by decide +kernel
theorem dX4_mostOf_0 : decode cX4_mostOf 0 = .ok (.iload_n 0, 1) := by decide +kernel
theorem dX4_mostOf_1 : decode cX4_mostOf 1 = .ok (.tableswitch 51 0 5 #[39, 51, 51, 42, 45, 49], 39) := by decide +kernel
theorem dX4_mostOf_40 : decode cX4_mostOf 40 = .ok (.bipush 6, 2) := by decide +kernel
theorem dX4_mostOf_42 : decode cX4_mostOf 42 = .ok (.ireturn, 1) := by decide +kernel
theorem dX4_mostOf_43 : decode cX4_mostOf 43 = .ok (.bipush 99, 2) := by decide +kernel
theorem dX4_mostOf_45 : decode cX4_mostOf 45 = .ok (.ireturn, 1) := by decide +kernel
theorem dX4_mostOf_46 : decode cX4_mostOf 46 = .ok (.sipush 9999, 3) := by decide +kernel
theorem dX4_mostOf_49 : decode cX4_mostOf 49 = .ok (.ireturn, 1) := by decide +kernel
theorem dX4_mostOf_50 : decode cX4_mostOf 50 = .ok (.iconst 1, 1) := by decide +kernel
theorem dX4_mostOf_51 : decode cX4_mostOf 51 = .ok (.ireturn, 1) := by decide +kernel
theorem dX4_mostOf_52 : decode cX4_mostOf 52 = .ok (.bipush 11, 2) := by decide +kernel
theorem dX4_mostOf_54 : decode cX4_mostOf 54 = .ok (.ireturn, 1) := by decide +kernel
theorem dX4_change_0 : decode cX4_change 0 = .ok (.aload_n 0, 1) := by decide +kernel
theorem dX4_change_1 : decode cX4_change 1 = .ok (.iload_n 1, 1) := by decide +kernel
theorem dX4_change_2 : decode cX4_change 2 = .ok (.invokevirtual 80, 3) := by decide +kernel
theorem dX4_change_5 : decode cX4_change 5 = .ok (.ifCond .eq 41, 3) := by decide +kernel
theorem dX4_change_8 : decode cX4_change 8 = .ok (.iload_n 2, 1) := by decide +kernel
theorem dX4_change_9 : decode cX4_change 9 = .ok (.iconst 0, 1) := by decide +kernel
theorem dX4_change_10 : decode cX4_change 10 = .ok (.iconst 5, 1) := by decide +kernel
theorem dX4_change_11 : decode cX4_change 11 = .ok (.invokestatic 40, 3) := by decide +kernel
theorem dX4_change_14 : decode cX4_change 14 = .ok (.ifCond .eq 32, 3) := by decide +kernel
theorem dX4_change_17 : decode cX4_change 17 = .ok (.iload_n 3, 1) := by decide +kernel
theorem dX4_change_18 : decode cX4_change 18 = .ok (.iconst 0, 1) := by decide +kernel
theorem dX4_change_19 : decode cX4_change 19 = .ok (.iload_n 2, 1) := by decide +kernel
theorem dX4_change_20 : decode cX4_change 20 = .ok (.invokestatic 83, 3) := by decide +kernel
theorem dX4_change_23 : decode cX4_change 23 = .ok (.invokestatic 40, 3) := by decide +kernel
theorem dX4_change_26 : decode cX4_change 26 = .ok (.ifCond .eq 20, 3) := by decide +kernel
theorem dX4_change_29 : decode cX4_change 29 = .ok (.aload_n 0, 1) := by decide +kernel
theorem dX4_change_30 : decode cX4_change 30 = .ok (.bipush 10, 2) := by decide +kernel
theorem dX4_change_32 : decode cX4_change 32 = .ok (.bipush 6, 2) := by decide +kernel
theorem dX4_change_34 : decode cX4_change 34 = .ok (.iload_n 1, 1) := by decide +kernel
theorem dX4_change_35 : decode cX4_change 35 = .ok (.imul, 1) := by decide +kernel
theorem dX4_change_36 : decode cX4_change 36 = .ok (.iadd, 1) := by decide +kernel
theorem dX4_change_37 : decode cX4_change 37 = .ok (.iload_n 2, 1) := by decide +kernel
theorem dX4_change_38 : decode cX4_change 38 = .ok (.iadd, 1) := by decide +kernel
theorem dX4_change_39 : decode cX4_change 39 = .ok (.iload_n 3, 1) := by decide +kernel
theorem dX4_change_40 : decode cX4_change 40 = .ok (.invokevirtual 59, 3) := by decide +kernel
theorem dX4_change_43 : decode cX4_change 43 = .ok (.goto 9, 3) := by decide +kernel
theorem dX4_change_46 : decode cX4_change 46 = .ok (.aload_n 0, 1) := by decide +kernel
theorem dX4_change_47 : decode cX4_change 47 = .ok (.ldc 34, 2) := by decide +kernel
theorem dX4_change_49 : decode cX4_change 49 = .ok (.invokevirtual 36, 3) := by decide +kernel
theorem dX4_change_52 : decode cX4_change 52 = .ok (.ireturn, 1) := by decide +kernel
theorem dX4_ofGuest_0 : decode cX4_ofGuest 0 = .ok (.aload_n 0, 1) := by decide +kernel
theorem dX4_ofGuest_1 : decode cX4_ofGuest 1 = .ok (.iload_n 1, 1) := by decide +kernel
theorem dX4_ofGuest_2 : decode cX4_ofGuest 2 = .ok (.invokevirtual 86, 3) := by decide +kernel
theorem dX4_ofGuest_5 : decode cX4_ofGuest 5 = .ok (.ifCond .eq 21, 3) := by decide +kernel
theorem dX4_ofGuest_8 : decode cX4_ofGuest 8 = .ok (.iload_n 2, 1) := by decide +kernel
theorem dX4_ofGuest_9 : decode cX4_ofGuest 9 = .ok (.iconst 0, 1) := by decide +kernel
theorem dX4_ofGuest_10 : decode cX4_ofGuest 10 = .ok (.iconst 4, 1) := by decide +kernel
theorem dX4_ofGuest_11 : decode cX4_ofGuest 11 = .ok (.invokestatic 40, 3) := by decide +kernel
theorem dX4_ofGuest_14 : decode cX4_ofGuest 14 = .ok (.ifCond .eq 12, 3) := by decide +kernel
theorem dX4_ofGuest_17 : decode cX4_ofGuest 17 = .ok (.aload_n 0, 1) := by decide +kernel
theorem dX4_ofGuest_18 : decode cX4_ofGuest 18 = .ok (.iload_n 1, 1) := by decide +kernel
theorem dX4_ofGuest_19 : decode cX4_ofGuest 19 = .ok (.iload_n 2, 1) := by decide +kernel
theorem dX4_ofGuest_20 : decode cX4_ofGuest 20 = .ok (.invokevirtual 44, 3) := by decide +kernel
theorem dX4_ofGuest_23 : decode cX4_ofGuest 23 = .ok (.goto 9, 3) := by decide +kernel
theorem dX4_ofGuest_26 : decode cX4_ofGuest 26 = .ok (.aload_n 0, 1) := by decide +kernel
theorem dX4_ofGuest_27 : decode cX4_ofGuest 27 = .ok (.ldc 34, 2) := by decide +kernel
theorem dX4_ofGuest_29 : decode cX4_ofGuest 29 = .ok (.invokevirtual 36, 3) := by decide +kernel
theorem dX4_ofGuest_32 : decode cX4_ofGuest 32 = .ok (.ireturn, 1) := by decide +kernel
theorem dX4_mostOfGuest_0 : decode cX4_mostOfGuest 0 = .ok (.iload_n 0, 1) := by decide +kernel
theorem dX4_mostOfGuest_1 : decode cX4_mostOfGuest 1 = .ok (.tableswitch 44 0 3 #[31, 34, 37, 40], 31) := by decide +kernel
theorem dX4_mostOfGuest_32 : decode cX4_mostOfGuest 32 = .ok (.bipush 99, 2) := by decide +kernel
theorem dX4_mostOfGuest_34 : decode cX4_mostOfGuest 34 = .ok (.ireturn, 1) := by decide +kernel
theorem dX4_mostOfGuest_35 : decode cX4_mostOfGuest 35 = .ok (.bipush 11, 2) := by decide +kernel
theorem dX4_mostOfGuest_37 : decode cX4_mostOfGuest 37 = .ok (.ireturn, 1) := by decide +kernel
theorem dX4_mostOfGuest_38 : decode cX4_mostOfGuest 38 = .ok (.ldc 89, 2) := by decide +kernel
theorem dX4_mostOfGuest_40 : decode cX4_mostOfGuest 40 = .ok (.ireturn, 1) := by decide +kernel
theorem dX4_mostOfGuest_41 : decode cX4_mostOfGuest 41 = .ok (.sipush 4095, 3) := by decide +kernel
theorem dX4_mostOfGuest_44 : decode cX4_mostOfGuest 44 = .ok (.ireturn, 1) := by decide +kernel
theorem dX4_mostOfGuest_45 : decode cX4_mostOfGuest 45 = .ok (.sipush 9999, 3) := by decide +kernel
theorem dX4_mostOfGuest_48 : decode cX4_mostOfGuest 48 = .ok (.ireturn, 1) := by decide +kernel
theorem dX4_seat_0 : decode cX4_seat 0 = .ok (.aload_n 0, 1) := by decide +kernel
theorem dX4_seat_1 : decode cX4_seat 1 = .ok (.iload_n 1, 1) := by decide +kernel
theorem dX4_seat_2 : decode cX4_seat 2 = .ok (.invokevirtual 86, 3) := by decide +kernel
theorem dX4_seat_5 : decode cX4_seat 5 = .ok (.ifCond .eq 40, 3) := by decide +kernel
theorem dX4_seat_8 : decode cX4_seat 8 = .ok (.iload_n 2, 1) := by decide +kernel
theorem dX4_seat_9 : decode cX4_seat 9 = .ok (.iconst 0, 1) := by decide +kernel
theorem dX4_seat_10 : decode cX4_seat 10 = .ok (.iconst 4, 1) := by decide +kernel
theorem dX4_seat_11 : decode cX4_seat 11 = .ok (.invokestatic 40, 3) := by decide +kernel
theorem dX4_seat_14 : decode cX4_seat 14 = .ok (.ifCond .eq 31, 3) := by decide +kernel
theorem dX4_seat_17 : decode cX4_seat 17 = .ok (.iload_n 3, 1) := by decide +kernel
theorem dX4_seat_18 : decode cX4_seat 18 = .ok (.iconst 0, 1) := by decide +kernel
theorem dX4_seat_19 : decode cX4_seat 19 = .ok (.iload_n 2, 1) := by decide +kernel
theorem dX4_seat_20 : decode cX4_seat 20 = .ok (.invokestatic 90, 3) := by decide +kernel
theorem dX4_seat_23 : decode cX4_seat 23 = .ok (.invokestatic 40, 3) := by decide +kernel
theorem dX4_seat_26 : decode cX4_seat 26 = .ok (.ifCond .eq 19, 3) := by decide +kernel
theorem dX4_seat_29 : decode cX4_seat 29 = .ok (.aload_n 0, 1) := by decide +kernel
theorem dX4_seat_30 : decode cX4_seat 30 = .ok (.bipush 58, 2) := by decide +kernel
theorem dX4_seat_32 : decode cX4_seat 32 = .ok (.iconst 5, 1) := by decide +kernel
theorem dX4_seat_33 : decode cX4_seat 33 = .ok (.iload_n 1, 1) := by decide +kernel
theorem dX4_seat_34 : decode cX4_seat 34 = .ok (.imul, 1) := by decide +kernel
theorem dX4_seat_35 : decode cX4_seat 35 = .ok (.iadd, 1) := by decide +kernel
theorem dX4_seat_36 : decode cX4_seat 36 = .ok (.iload_n 2, 1) := by decide +kernel
theorem dX4_seat_37 : decode cX4_seat 37 = .ok (.iadd, 1) := by decide +kernel
theorem dX4_seat_38 : decode cX4_seat 38 = .ok (.iload_n 3, 1) := by decide +kernel
theorem dX4_seat_39 : decode cX4_seat 39 = .ok (.invokevirtual 59, 3) := by decide +kernel
theorem dX4_seat_42 : decode cX4_seat 42 = .ok (.goto 9, 3) := by decide +kernel
theorem dX4_seat_45 : decode cX4_seat 45 = .ok (.aload_n 0, 1) := by decide +kernel
theorem dX4_seat_46 : decode cX4_seat 46 = .ok (.ldc 34, 2) := by decide +kernel
theorem dX4_seat_48 : decode cX4_seat 48 = .ok (.invokevirtual 36, 3) := by decide +kernel
theorem dX4_seat_51 : decode cX4_seat 51 = .ok (.ireturn, 1) := by decide +kernel
theorem dX4_would_0 : decode cX4_would 0 = .ok (.aload_n 0, 1) := by decide +kernel
theorem dX4_would_1 : decode cX4_would 1 = .ok (.iload_n 1, 1) := by decide +kernel
theorem dX4_would_2 : decode cX4_would 2 = .ok (.invokevirtual 86, 3) := by decide +kernel
theorem dX4_would_5 : decode cX4_would 5 = .ok (.ifCond .eq 11, 3) := by decide +kernel
theorem dX4_would_8 : decode cX4_would 8 = .ok (.aload_n 0, 1) := by decide +kernel
theorem dX4_would_9 : decode cX4_would 9 = .ok (.iload_n 2, 1) := by decide +kernel
theorem dX4_would_10 : decode cX4_would 10 = .ok (.invokevirtual 80, 3) := by decide +kernel
theorem dX4_would_13 : decode cX4_would 13 = .ok (.ifCond .ne 10, 3) := by decide +kernel
theorem dX4_would_16 : decode cX4_would 16 = .ok (.aload_n 0, 1) := by decide +kernel
theorem dX4_would_17 : decode cX4_would 17 = .ok (.ldc 34, 2) := by decide +kernel
theorem dX4_would_19 : decode cX4_would 19 = .ok (.invokevirtual 36, 3) := by decide +kernel
theorem dX4_would_22 : decode cX4_would 22 = .ok (.ireturn, 1) := by decide +kernel
theorem dX4_would_23 : decode cX4_would 23 = .ok (.aload_n 0, 1) := by decide +kernel
theorem dX4_would_24 : decode cX4_would 24 = .ok (.iload_n 1, 1) := by decide +kernel
theorem dX4_would_25 : decode cX4_would 25 = .ok (.iload_n 2, 1) := by decide +kernel
theorem dX4_would_26 : decode cX4_would 26 = .ok (.invokevirtual 93, 3) := by decide +kernel
theorem dX4_would_29 : decode cX4_would 29 = .ok (.istore 4, 2) := by decide +kernel
theorem dX4_would_31 : decode cX4_would 31 = .ok (.iload_n 3, 1) := by decide +kernel
theorem dX4_would_32 : decode cX4_would 32 = .ok (.tableswitch 76 0 3 #[32, 43, 52, 60], 32) := by decide +kernel
theorem dX4_would_64 : decode cX4_would 64 = .ok (.iload 4, 2) := by decide +kernel
theorem dX4_would_66 : decode cX4_would 66 = .ok (.ifCond .eq 7, 3) := by decide +kernel
theorem dX4_would_69 : decode cX4_would 69 = .ok (.iconst 1, 1) := by decide +kernel
theorem dX4_would_70 : decode cX4_would 70 = .ok (.goto 4, 3) := by decide +kernel
theorem dX4_would_73 : decode cX4_would 73 = .ok (.iconst 0, 1) := by decide +kernel
theorem dX4_would_74 : decode cX4_would 74 = .ok (.ireturn, 1) := by decide +kernel
theorem dX4_would_75 : decode cX4_would 75 = .ok (.aload_n 0, 1) := by decide +kernel
theorem dX4_would_76 : decode cX4_would 76 = .ok (.iload_n 1, 1) := by decide +kernel
theorem dX4_would_77 : decode cX4_would 77 = .ok (.iload_n 2, 1) := by decide +kernel
theorem dX4_would_78 : decode cX4_would 78 = .ok (.iload 4, 2) := by decide +kernel
theorem dX4_would_80 : decode cX4_would 80 = .ok (.invokevirtual 96, 3) := by decide +kernel
theorem dX4_would_83 : decode cX4_would 83 = .ok (.ireturn, 1) := by decide +kernel
theorem dX4_would_84 : decode cX4_would 84 = .ok (.aload_n 0, 1) := by decide +kernel
theorem dX4_would_85 : decode cX4_would 85 = .ok (.iload_n 2, 1) := by decide +kernel
theorem dX4_would_86 : decode cX4_would 86 = .ok (.iload 4, 2) := by decide +kernel
theorem dX4_would_88 : decode cX4_would 88 = .ok (.invokevirtual 100, 3) := by decide +kernel
theorem dX4_would_91 : decode cX4_would 91 = .ok (.ireturn, 1) := by decide +kernel
theorem dX4_would_92 : decode cX4_would 92 = .ok (.aload_n 0, 1) := by decide +kernel
theorem dX4_would_93 : decode cX4_would 93 = .ok (.iload_n 2, 1) := by decide +kernel
theorem dX4_would_94 : decode cX4_would 94 = .ok (.iload 4, 2) := by decide +kernel
theorem dX4_would_96 : decode cX4_would 96 = .ok (.ifCond .eq 7, 3) := by decide +kernel
theorem dX4_would_99 : decode cX4_would 99 = .ok (.iconst 1, 1) := by decide +kernel
theorem dX4_would_100 : decode cX4_would 100 = .ok (.goto 4, 3) := by decide +kernel
theorem dX4_would_103 : decode cX4_would 103 = .ok (.iconst 2, 1) := by decide +kernel
theorem dX4_would_104 : decode cX4_would 104 = .ok (.invokevirtual 48, 3) := by decide +kernel
theorem dX4_would_107 : decode cX4_would 107 = .ok (.ireturn, 1) := by decide +kernel
theorem dX4_would_108 : decode cX4_would 108 = .ok (.aload_n 0, 1) := by decide +kernel
theorem dX4_would_109 : decode cX4_would 109 = .ok (.ldc 34, 2) := by decide +kernel
theorem dX4_would_111 : decode cX4_would 111 = .ok (.invokevirtual 36, 3) := by decide +kernel
theorem dX4_would_114 : decode cX4_would 114 = .ok (.ireturn, 1) := by decide +kernel
theorem dX4_eats_0 : decode cX4_eats 0 = .ok (.aload_n 0, 1) := by decide +kernel
theorem dX4_eats_1 : decode cX4_eats 1 = .ok (.iload_n 1, 1) := by decide +kernel
theorem dX4_eats_2 : decode cX4_eats 2 = .ok (.iload_n 2, 1) := by decide +kernel
theorem dX4_eats_3 : decode cX4_eats 3 = .ok (.invokevirtual 93, 3) := by decide +kernel
theorem dX4_eats_6 : decode cX4_eats 6 = .ok (.istore_n 3, 1) := by decide +kernel
theorem dX4_eats_7 : decode cX4_eats 7 = .ok (.aload_n 0, 1) := by decide +kernel
theorem dX4_eats_8 : decode cX4_eats 8 = .ok (.iload_n 2, 1) := by decide +kernel
theorem dX4_eats_9 : decode cX4_eats 9 = .ok (.iload_n 3, 1) := by decide +kernel
theorem dX4_eats_10 : decode cX4_eats 10 = .ok (.ifCond .eq 7, 3) := by decide +kernel
theorem dX4_eats_13 : decode cX4_eats 13 = .ok (.iconst 1, 1) := by decide +kernel
theorem dX4_eats_14 : decode cX4_eats 14 = .ok (.goto 4, 3) := by decide +kernel
theorem dX4_eats_17 : decode cX4_eats 17 = .ok (.iconst 2, 1) := by decide +kernel
theorem dX4_eats_18 : decode cX4_eats 18 = .ok (.invokevirtual 48, 3) := by decide +kernel
theorem dX4_eats_21 : decode cX4_eats 21 = .ok (.istore 4, 2) := by decide +kernel
theorem dX4_eats_23 : decode cX4_eats 23 = .ok (.aload_n 0, 1) := by decide +kernel
theorem dX4_eats_24 : decode cX4_eats 24 = .ok (.iload_n 1, 1) := by decide +kernel
theorem dX4_eats_25 : decode cX4_eats 25 = .ok (.iconst 2, 1) := by decide +kernel
theorem dX4_eats_26 : decode cX4_eats 26 = .ok (.aload_n 0, 1) := by decide +kernel
theorem dX4_eats_27 : decode cX4_eats 27 = .ok (.iload_n 1, 1) := by decide +kernel
theorem dX4_eats_28 : decode cX4_eats 28 = .ok (.iconst 2, 1) := by decide +kernel
theorem dX4_eats_29 : decode cX4_eats 29 = .ok (.invokevirtual 44, 3) := by decide +kernel
theorem dX4_eats_32 : decode cX4_eats 32 = .ok (.aload_n 0, 1) := by decide +kernel
theorem dX4_eats_33 : decode cX4_eats 33 = .ok (.iload_n 1, 1) := by decide +kernel
theorem dX4_eats_34 : decode cX4_eats 34 = .ok (.iload_n 2, 1) := by decide +kernel
theorem dX4_eats_35 : decode cX4_eats 35 = .ok (.iload_n 3, 1) := by decide +kernel
theorem dX4_eats_36 : decode cX4_eats 36 = .ok (.invokevirtual 96, 3) := by decide +kernel
theorem dX4_eats_39 : decode cX4_eats 39 = .ok (.iadd, 1) := by decide +kernel
theorem dX4_eats_40 : decode cX4_eats 40 = .ok (.iconst 0, 1) := by decide +kernel
theorem dX4_eats_41 : decode cX4_eats 41 = .ok (.ldc 89, 2) := by decide +kernel
theorem dX4_eats_43 : decode cX4_eats 43 = .ok (.invokestatic 104, 3) := by decide +kernel
theorem dX4_eats_46 : decode cX4_eats 46 = .ok (.invokevirtual 74, 3) := by decide +kernel
theorem dX4_eats_49 : decode cX4_eats 49 = .ok (.aload_n 0, 1) := by decide +kernel
theorem dX4_eats_50 : decode cX4_eats 50 = .ok (.iload_n 1, 1) := by decide +kernel
theorem dX4_eats_51 : decode cX4_eats 51 = .ok (.iconst 1, 1) := by decide +kernel
theorem dX4_eats_52 : decode cX4_eats 52 = .ok (.iload 4, 2) := by decide +kernel
theorem dX4_eats_54 : decode cX4_eats 54 = .ok (.invokevirtual 74, 3) := by decide +kernel
theorem dX4_eats_57 : decode cX4_eats 57 = .ok (.aload_n 0, 1) := by decide +kernel
theorem dX4_eats_58 : decode cX4_eats 58 = .ok (.iload_n 1, 1) := by decide +kernel
theorem dX4_eats_59 : decode cX4_eats 59 = .ok (.iconst 3, 1) := by decide +kernel
theorem dX4_eats_60 : decode cX4_eats 60 = .ok (.aload_n 0, 1) := by decide +kernel
theorem dX4_eats_61 : decode cX4_eats 61 = .ok (.iload_n 1, 1) := by decide +kernel
theorem dX4_eats_62 : decode cX4_eats 62 = .ok (.iconst 3, 1) := by decide +kernel
theorem dX4_eats_63 : decode cX4_eats 63 = .ok (.invokevirtual 44, 3) := by decide +kernel
theorem dX4_eats_66 : decode cX4_eats 66 = .ok (.iconst 1, 1) := by decide +kernel
theorem dX4_eats_67 : decode cX4_eats 67 = .ok (.iload 4, 2) := by decide +kernel
theorem dX4_eats_69 : decode cX4_eats 69 = .ok (.ishl, 1) := by decide +kernel
theorem dX4_eats_70 : decode cX4_eats 70 = .ok (.ior, 1) := by decide +kernel
theorem dX4_eats_71 : decode cX4_eats 71 = .ok (.invokevirtual 74, 3) := by decide +kernel
theorem dX4_eats_74 : decode cX4_eats 74 = .ok (.aload_n 0, 1) := by decide +kernel
theorem dX4_eats_75 : decode cX4_eats 75 = .ok (.iload_n 1, 1) := by decide +kernel
theorem dX4_eats_76 : decode cX4_eats 76 = .ok (.iconst 4, 1) := by decide +kernel
theorem dX4_eats_77 : decode cX4_eats 77 = .ok (.aload_n 0, 1) := by decide +kernel
theorem dX4_eats_78 : decode cX4_eats 78 = .ok (.iload_n 1, 1) := by decide +kernel
theorem dX4_eats_79 : decode cX4_eats 79 = .ok (.iconst 4, 1) := by decide +kernel
theorem dX4_eats_80 : decode cX4_eats 80 = .ok (.invokevirtual 44, 3) := by decide +kernel
theorem dX4_eats_83 : decode cX4_eats 83 = .ok (.iconst 1, 1) := by decide +kernel
theorem dX4_eats_84 : decode cX4_eats 84 = .ok (.iadd, 1) := by decide +kernel
theorem dX4_eats_85 : decode cX4_eats 85 = .ok (.iconst 0, 1) := by decide +kernel
theorem dX4_eats_86 : decode cX4_eats 86 = .ok (.sipush 9999, 3) := by decide +kernel
theorem dX4_eats_89 : decode cX4_eats 89 = .ok (.invokestatic 104, 3) := by decide +kernel
theorem dX4_eats_92 : decode cX4_eats 92 = .ok (.invokevirtual 74, 3) := by decide +kernel
theorem dX4_eats_95 : decode cX4_eats 95 = .ok (.aload_n 0, 1) := by decide +kernel
theorem dX4_eats_96 : decode cX4_eats 96 = .ok (.iload_n 1, 1) := by decide +kernel
theorem dX4_eats_97 : decode cX4_eats 97 = .ok (.iconst 0, 1) := by decide +kernel
theorem dX4_eats_98 : decode cX4_eats 98 = .ok (.aload_n 0, 1) := by decide +kernel
theorem dX4_eats_99 : decode cX4_eats 99 = .ok (.iload_n 1, 1) := by decide +kernel
theorem dX4_eats_100 : decode cX4_eats 100 = .ok (.iconst 0, 1) := by decide +kernel
theorem dX4_eats_101 : decode cX4_eats 101 = .ok (.invokevirtual 44, 3) := by decide +kernel
theorem dX4_eats_104 : decode cX4_eats 104 = .ok (.aload_n 0, 1) := by decide +kernel
theorem dX4_eats_105 : decode cX4_eats 105 = .ok (.iload_n 2, 1) := by decide +kernel
theorem dX4_eats_106 : decode cX4_eats 106 = .ok (.iload_n 3, 1) := by decide +kernel
theorem dX4_eats_107 : decode cX4_eats 107 = .ok (.invokevirtual 100, 3) := by decide +kernel
theorem dX4_eats_110 : decode cX4_eats 110 = .ok (.iadd, 1) := by decide +kernel
theorem dX4_eats_111 : decode cX4_eats 111 = .ok (.iconst 0, 1) := by decide +kernel
theorem dX4_eats_112 : decode cX4_eats 112 = .ok (.bipush 99, 2) := by decide +kernel
theorem dX4_eats_114 : decode cX4_eats 114 = .ok (.invokestatic 104, 3) := by decide +kernel
theorem dX4_eats_117 : decode cX4_eats 117 = .ok (.invokevirtual 74, 3) := by decide +kernel
theorem dX4_eats_120 : decode cX4_eats 120 = .ok (.aload_n 0, 1) := by decide +kernel
theorem dX4_eats_121 : decode cX4_eats 121 = .ok (.iload_n 2, 1) := by decide +kernel
theorem dX4_eats_122 : decode cX4_eats 122 = .ok (.iconst 4, 1) := by decide +kernel
theorem dX4_eats_123 : decode cX4_eats 123 = .ok (.aload_n 0, 1) := by decide +kernel
theorem dX4_eats_124 : decode cX4_eats 124 = .ok (.iload_n 2, 1) := by decide +kernel
theorem dX4_eats_125 : decode cX4_eats 125 = .ok (.iconst 4, 1) := by decide +kernel
theorem dX4_eats_126 : decode cX4_eats 126 = .ok (.invokevirtual 48, 3) := by decide +kernel
theorem dX4_eats_129 : decode cX4_eats 129 = .ok (.iconst 1, 1) := by decide +kernel
theorem dX4_eats_130 : decode cX4_eats 130 = .ok (.iadd, 1) := by decide +kernel
theorem dX4_eats_131 : decode cX4_eats 131 = .ok (.iconst 0, 1) := by decide +kernel
theorem dX4_eats_132 : decode cX4_eats 132 = .ok (.sipush 9999, 3) := by decide +kernel
theorem dX4_eats_135 : decode cX4_eats 135 = .ok (.invokestatic 104, 3) := by decide +kernel
theorem dX4_eats_138 : decode cX4_eats 138 = .ok (.invokevirtual 62, 3) := by decide +kernel
theorem dX4_eats_141 : decode cX4_eats 141 = .ok (.iload 4, 2) := by decide +kernel
theorem dX4_eats_143 : decode cX4_eats 143 = .ok (.ireturn, 1) := by decide +kernel
theorem dX4_eat_0 : decode cX4_eat 0 = .ok (.aload_n 0, 1) := by decide +kernel
theorem dX4_eat_1 : decode cX4_eat 1 = .ok (.iload_n 1, 1) := by decide +kernel
theorem dX4_eat_2 : decode cX4_eat 2 = .ok (.invokevirtual 86, 3) := by decide +kernel
theorem dX4_eat_5 : decode cX4_eat 5 = .ok (.ifCond .eq 11, 3) := by decide +kernel
theorem dX4_eat_8 : decode cX4_eat 8 = .ok (.aload_n 0, 1) := by decide +kernel
theorem dX4_eat_9 : decode cX4_eat 9 = .ok (.iload_n 2, 1) := by decide +kernel
theorem dX4_eat_10 : decode cX4_eat 10 = .ok (.invokevirtual 80, 3) := by decide +kernel
theorem dX4_eat_13 : decode cX4_eat 13 = .ok (.ifCond .ne 10, 3) := by decide +kernel
theorem dX4_eat_16 : decode cX4_eat 16 = .ok (.aload_n 0, 1) := by decide +kernel
theorem dX4_eat_17 : decode cX4_eat 17 = .ok (.ldc 34, 2) := by decide +kernel
theorem dX4_eat_19 : decode cX4_eat 19 = .ok (.invokevirtual 36, 3) := by decide +kernel
theorem dX4_eat_22 : decode cX4_eat 22 = .ok (.ireturn, 1) := by decide +kernel
theorem dX4_eat_23 : decode cX4_eat 23 = .ok (.aload_n 0, 1) := by decide +kernel
theorem dX4_eat_24 : decode cX4_eat 24 = .ok (.iload_n 2, 1) := by decide +kernel
theorem dX4_eat_25 : decode cX4_eat 25 = .ok (.iconst 5, 1) := by decide +kernel
theorem dX4_eat_26 : decode cX4_eat 26 = .ok (.invokevirtual 48, 3) := by decide +kernel
theorem dX4_eat_29 : decode cX4_eat 29 = .ok (.iconst 1, 1) := by decide +kernel
theorem dX4_eat_30 : decode cX4_eat 30 = .ok (.if_icmp .ne 12, 3) := by decide +kernel
theorem dX4_eat_33 : decode cX4_eat 33 = .ok (.aload_n 0, 1) := by decide +kernel
theorem dX4_eat_34 : decode cX4_eat 34 = .ok (.ldc 107, 2) := by decide +kernel
theorem dX4_eat_36 : decode cX4_eat 36 = .ok (.invokevirtual 36, 3) := by decide +kernel
theorem dX4_eat_39 : decode cX4_eat 39 = .ok (.goto 9, 3) := by decide +kernel
theorem dX4_eat_42 : decode cX4_eat 42 = .ok (.aload_n 0, 1) := by decide +kernel
theorem dX4_eat_43 : decode cX4_eat 43 = .ok (.iload_n 1, 1) := by decide +kernel
theorem dX4_eat_44 : decode cX4_eat 44 = .ok (.iload_n 2, 1) := by decide +kernel
theorem dX4_eat_45 : decode cX4_eat 45 = .ok (.invokevirtual 108, 3) := by decide +kernel
theorem dX4_eat_48 : decode cX4_eat 48 = .ok (.ireturn, 1) := by decide +kernel
theorem dX4_goes_0 : decode cX4_goes 0 = .ok (.aload_n 0, 1) := by decide +kernel
theorem dX4_goes_1 : decode cX4_goes 1 = .ok (.getfield 9, 3) := by decide +kernel
theorem dX4_goes_4 : decode cX4_goes 4 = .ok (.iconst 4, 1) := by decide +kernel
theorem dX4_goes_5 : decode cX4_goes 5 = .ok (.aload_n 0, 1) := by decide +kernel
theorem dX4_goes_6 : decode cX4_goes 6 = .ok (.getfield 9, 3) := by decide +kernel
theorem dX4_goes_9 : decode cX4_goes 9 = .ok (.iconst 0, 1) := by decide +kernel
theorem dX4_goes_10 : decode cX4_goes 10 = .ok (.iaload, 1) := by decide +kernel
theorem dX4_goes_11 : decode cX4_goes 11 = .ok (.bipush 6, 2) := by decide +kernel
theorem dX4_goes_13 : decode cX4_goes 13 = .ok (.irem, 1) := by decide +kernel
theorem dX4_goes_14 : decode cX4_goes 14 = .ok (.iadd, 1) := by decide +kernel
theorem dX4_goes_15 : decode cX4_goes 15 = .ok (.iaload, 1) := by decide +kernel
theorem dX4_goes_16 : decode cX4_goes 16 = .ok (.istore_n 1, 1) := by decide +kernel
theorem dX4_goes_17 : decode cX4_goes 17 = .ok (.aload_n 0, 1) := by decide +kernel
theorem dX4_goes_18 : decode cX4_goes 18 = .ok (.iload_n 1, 1) := by decide +kernel
theorem dX4_goes_19 : decode cX4_goes 19 = .ok (.bipush 10, 2) := by decide +kernel
theorem dX4_goes_21 : decode cX4_goes 21 = .ok (.idiv, 1) := by decide +kernel
theorem dX4_goes_22 : decode cX4_goes 22 = .ok (.invokevirtual 86, 3) := by decide +kernel
theorem dX4_goes_25 : decode cX4_goes 25 = .ok (.ifCond .eq 39, 3) := by decide +kernel
theorem dX4_goes_28 : decode cX4_goes 28 = .ok (.aload_n 0, 1) := by decide +kernel
theorem dX4_goes_29 : decode cX4_goes 29 = .ok (.iload_n 1, 1) := by decide +kernel
theorem dX4_goes_30 : decode cX4_goes 30 = .ok (.bipush 10, 2) := by decide +kernel
theorem dX4_goes_32 : decode cX4_goes 32 = .ok (.irem, 1) := by decide +kernel
theorem dX4_goes_33 : decode cX4_goes 33 = .ok (.invokevirtual 80, 3) := by decide +kernel
theorem dX4_goes_36 : decode cX4_goes 36 = .ok (.ifCond .eq 28, 3) := by decide +kernel
theorem dX4_goes_39 : decode cX4_goes 39 = .ok (.aload_n 0, 1) := by decide +kernel
theorem dX4_goes_40 : decode cX4_goes 40 = .ok (.iload_n 1, 1) := by decide +kernel
theorem dX4_goes_41 : decode cX4_goes 41 = .ok (.bipush 10, 2) := by decide +kernel
theorem dX4_goes_43 : decode cX4_goes 43 = .ok (.irem, 1) := by decide +kernel
theorem dX4_goes_44 : decode cX4_goes 44 = .ok (.iconst 5, 1) := by decide +kernel
theorem dX4_goes_45 : decode cX4_goes 45 = .ok (.invokevirtual 48, 3) := by decide +kernel
theorem dX4_goes_48 : decode cX4_goes 48 = .ok (.ifCond .ne 16, 3) := by decide +kernel
theorem dX4_goes_51 : decode cX4_goes 51 = .ok (.aload_n 0, 1) := by decide +kernel
theorem dX4_goes_52 : decode cX4_goes 52 = .ok (.iload_n 1, 1) := by decide +kernel
theorem dX4_goes_53 : decode cX4_goes 53 = .ok (.bipush 10, 2) := by decide +kernel
theorem dX4_goes_55 : decode cX4_goes 55 = .ok (.idiv, 1) := by decide +kernel
theorem dX4_goes_56 : decode cX4_goes 56 = .ok (.iload_n 1, 1) := by decide +kernel
theorem dX4_goes_57 : decode cX4_goes 57 = .ok (.bipush 10, 2) := by decide +kernel
theorem dX4_goes_59 : decode cX4_goes 59 = .ok (.irem, 1) := by decide +kernel
theorem dX4_goes_60 : decode cX4_goes 60 = .ok (.invokevirtual 108, 3) := by decide +kernel
theorem dX4_goes_63 : decode cX4_goes 63 = .ok (.istore_n 2, 1) := by decide +kernel
theorem dX4_goes_64 : decode cX4_goes 64 = .ok (.aload_n 0, 1) := by decide +kernel
theorem dX4_goes_65 : decode cX4_goes 65 = .ok (.getfield 9, 3) := by decide +kernel
theorem dX4_goes_68 : decode cX4_goes 68 = .ok (.iconst 0, 1) := by decide +kernel
theorem dX4_goes_69 : decode cX4_goes 69 = .ok (.aload_n 0, 1) := by decide +kernel
theorem dX4_goes_70 : decode cX4_goes 70 = .ok (.getfield 9, 3) := by decide +kernel
theorem dX4_goes_73 : decode cX4_goes 73 = .ok (.iconst 0, 1) := by decide +kernel
theorem dX4_goes_74 : decode cX4_goes 74 = .ok (.iaload, 1) := by decide +kernel
theorem dX4_goes_75 : decode cX4_goes 75 = .ok (.iconst 1, 1) := by decide +kernel
theorem dX4_goes_76 : decode cX4_goes 76 = .ok (.iadd, 1) := by decide +kernel
theorem dX4_goes_77 : decode cX4_goes 77 = .ok (.iconst 0, 1) := by decide +kernel
theorem dX4_goes_78 : decode cX4_goes 78 = .ok (.ldc 89, 2) := by decide +kernel
theorem dX4_goes_80 : decode cX4_goes 80 = .ok (.invokestatic 104, 3) := by decide +kernel
theorem dX4_goes_83 : decode cX4_goes 83 = .ok (.iastore, 1) := by decide +kernel
theorem dX4_goes_84 : decode cX4_goes 84 = .ok (.return_, 1) := by decide +kernel
theorem dX4_goesFor_0 : decode cX4_goesFor 0 = .ok (.iconst 0, 1) := by decide +kernel
theorem dX4_goesFor_1 : decode cX4_goesFor 1 = .ok (.istore_n 2, 1) := by decide +kernel
theorem dX4_goesFor_2 : decode cX4_goesFor 2 = .ok (.iload_n 2, 1) := by decide +kernel
theorem dX4_goesFor_3 : decode cX4_goesFor 3 = .ok (.iload_n 1, 1) := by decide +kernel
theorem dX4_goesFor_4 : decode cX4_goesFor 4 = .ok (.if_icmp .ge 13, 3) := by decide +kernel
theorem dX4_goesFor_7 : decode cX4_goesFor 7 = .ok (.aload_n 0, 1) := by decide +kernel
theorem dX4_goesFor_8 : decode cX4_goesFor 8 = .ok (.invokevirtual 111, 3) := by decide +kernel
theorem dX4_goesFor_11 : decode cX4_goesFor 11 = .ok (.iinc 2 1, 3) := by decide +kernel
theorem dX4_goesFor_14 : decode cX4_goesFor 14 = .ok (.goto (-12), 3) := by decide +kernel
theorem dX4_goesFor_17 : decode cX4_goesFor 17 = .ok (.return_, 1) := by decide +kernel
theorem dX4_bills_0 : decode cX4_bills 0 = .ok (.iconst 0, 1) := by decide +kernel
theorem dX4_bills_1 : decode cX4_bills 1 = .ok (.istore_n 1, 1) := by decide +kernel
theorem dX4_bills_2 : decode cX4_bills 2 = .ok (.iconst 0, 1) := by decide +kernel
theorem dX4_bills_3 : decode cX4_bills 3 = .ok (.istore_n 2, 1) := by decide +kernel
theorem dX4_bills_4 : decode cX4_bills 4 = .ok (.iload_n 2, 1) := by decide +kernel
theorem dX4_bills_5 : decode cX4_bills 5 = .ok (.aload_n 0, 1) := by decide +kernel
theorem dX4_bills_6 : decode cX4_bills 6 = .ok (.getfield 9, 3) := by decide +kernel
theorem dX4_bills_9 : decode cX4_bills 9 = .ok (.iconst 3, 1) := by decide +kernel
theorem dX4_bills_10 : decode cX4_bills 10 = .ok (.iaload, 1) := by decide +kernel
theorem dX4_bills_11 : decode cX4_bills 11 = .ok (.if_icmp .ge 18, 3) := by decide +kernel
theorem dX4_bills_14 : decode cX4_bills 14 = .ok (.iload_n 1, 1) := by decide +kernel
theorem dX4_bills_15 : decode cX4_bills 15 = .ok (.aload_n 0, 1) := by decide +kernel
theorem dX4_bills_16 : decode cX4_bills 16 = .ok (.iload_n 2, 1) := by decide +kernel
theorem dX4_bills_17 : decode cX4_bills 17 = .ok (.iconst 2, 1) := by decide +kernel
theorem dX4_bills_18 : decode cX4_bills 18 = .ok (.invokevirtual 44, 3) := by decide +kernel
theorem dX4_bills_21 : decode cX4_bills 21 = .ok (.iadd, 1) := by decide +kernel
theorem dX4_bills_22 : decode cX4_bills 22 = .ok (.istore_n 1, 1) := by decide +kernel
theorem dX4_bills_23 : decode cX4_bills 23 = .ok (.iinc 2 1, 3) := by decide +kernel
theorem dX4_bills_26 : decode cX4_bills 26 = .ok (.goto (-22), 3) := by decide +kernel
theorem dX4_bills_29 : decode cX4_bills 29 = .ok (.iload_n 1, 1) := by decide +kernel
theorem dX4_bills_30 : decode cX4_bills 30 = .ok (.ireturn, 1) := by decide +kernel
theorem dX4_go_0 : decode cX4_go 0 = .ok (.iload_n 1, 1) := by decide +kernel
theorem dX4_go_1 : decode cX4_go 1 = .ok (.iconst 1, 1) := by decide +kernel
theorem dX4_go_2 : decode cX4_go 2 = .ok (.bipush 60, 2) := by decide +kernel
theorem dX4_go_4 : decode cX4_go 4 = .ok (.invokestatic 40, 3) := by decide +kernel
theorem dX4_go_7 : decode cX4_go 7 = .ok (.ifCond .ne 10, 3) := by decide +kernel
theorem dX4_go_10 : decode cX4_go 10 = .ok (.aload_n 0, 1) := by decide +kernel
theorem dX4_go_11 : decode cX4_go 11 = .ok (.ldc 34, 2) := by decide +kernel
theorem dX4_go_13 : decode cX4_go 13 = .ok (.invokevirtual 36, 3) := by decide +kernel
theorem dX4_go_16 : decode cX4_go 16 = .ok (.ireturn, 1) := by decide +kernel
theorem dX4_go_17 : decode cX4_go 17 = .ok (.aload_n 0, 1) := by decide +kernel
theorem dX4_go_18 : decode cX4_go 18 = .ok (.getfield 9, 3) := by decide +kernel
theorem dX4_go_21 : decode cX4_go 21 = .ok (.iconst 0, 1) := by decide +kernel
theorem dX4_go_22 : decode cX4_go 22 = .ok (.iaload, 1) := by decide +kernel
theorem dX4_go_23 : decode cX4_go 23 = .ok (.iload_n 1, 1) := by decide +kernel
theorem dX4_go_24 : decode cX4_go 24 = .ok (.iadd, 1) := by decide +kernel
theorem dX4_go_25 : decode cX4_go 25 = .ok (.ldc 89, 2) := by decide +kernel
theorem dX4_go_27 : decode cX4_go 27 = .ok (.if_icmp .le 10, 3) := by decide +kernel
theorem dX4_go_30 : decode cX4_go 30 = .ok (.aload_n 0, 1) := by decide +kernel
theorem dX4_go_31 : decode cX4_go 31 = .ok (.ldc 107, 2) := by decide +kernel
theorem dX4_go_33 : decode cX4_go 33 = .ok (.invokevirtual 36, 3) := by decide +kernel
theorem dX4_go_36 : decode cX4_go 36 = .ok (.ireturn, 1) := by decide +kernel
theorem dX4_go_37 : decode cX4_go 37 = .ok (.aload_n 0, 1) := by decide +kernel
theorem dX4_go_38 : decode cX4_go 38 = .ok (.iload_n 1, 1) := by decide +kernel
theorem dX4_go_39 : decode cX4_go 39 = .ok (.invokevirtual 114, 3) := by decide +kernel
theorem dX4_go_42 : decode cX4_go 42 = .ok (.aload_n 0, 1) := by decide +kernel
theorem dX4_go_43 : decode cX4_go 43 = .ok (.invokevirtual 118, 3) := by decide +kernel
theorem dX4_go_46 : decode cX4_go 46 = .ok (.ireturn, 1) := by decide +kernel
theorem dX4_aims_0 : decode cX4_aims 0 = .ok (.iconst 0, 1) := by decide +kernel
theorem dX4_aims_1 : decode cX4_aims 1 = .ok (.istore_n 1, 1) := by decide +kernel
theorem dX4_aims_2 : decode cX4_aims 2 = .ok (.iconst 0, 1) := by decide +kernel
theorem dX4_aims_3 : decode cX4_aims 3 = .ok (.istore_n 2, 1) := by decide +kernel
theorem dX4_aims_4 : decode cX4_aims 4 = .ok (.iload_n 2, 1) := by decide +kernel
theorem dX4_aims_5 : decode cX4_aims 5 = .ok (.aload_n 0, 1) := by decide +kernel
theorem dX4_aims_6 : decode cX4_aims 6 = .ok (.getfield 9, 3) := by decide +kernel
theorem dX4_aims_9 : decode cX4_aims 9 = .ok (.iconst 3, 1) := by decide +kernel
theorem dX4_aims_10 : decode cX4_aims 10 = .ok (.iaload, 1) := by decide +kernel
theorem dX4_aims_11 : decode cX4_aims 11 = .ok (.if_icmp .ge 20, 3) := by decide +kernel
theorem dX4_aims_14 : decode cX4_aims 14 = .ok (.iload_n 1, 1) := by decide +kernel
theorem dX4_aims_15 : decode cX4_aims 15 = .ok (.iconst 1, 1) := by decide +kernel
theorem dX4_aims_16 : decode cX4_aims 16 = .ok (.aload_n 0, 1) := by decide +kernel
theorem dX4_aims_17 : decode cX4_aims 17 = .ok (.iload_n 2, 1) := by decide +kernel
theorem dX4_aims_18 : decode cX4_aims 18 = .ok (.iconst 1, 1) := by decide +kernel
theorem dX4_aims_19 : decode cX4_aims 19 = .ok (.invokevirtual 44, 3) := by decide +kernel
theorem dX4_aims_22 : decode cX4_aims 22 = .ok (.ishl, 1) := by decide +kernel
theorem dX4_aims_23 : decode cX4_aims 23 = .ok (.ior, 1) := by decide +kernel
theorem dX4_aims_24 : decode cX4_aims 24 = .ok (.istore_n 1, 1) := by decide +kernel
theorem dX4_aims_25 : decode cX4_aims 25 = .ok (.iinc 2 1, 3) := by decide +kernel
theorem dX4_aims_28 : decode cX4_aims 28 = .ok (.goto (-24), 3) := by decide +kernel
theorem dX4_aims_31 : decode cX4_aims 31 = .ok (.iload_n 1, 1) := by decide +kernel
theorem dX4_aims_32 : decode cX4_aims 32 = .ok (.ireturn, 1) := by decide +kernel
theorem dX4_allBeen_0 : decode cX4_allBeen 0 = .ok (.iconst 0, 1) := by decide +kernel
theorem dX4_allBeen_1 : decode cX4_allBeen 1 = .ok (.istore_n 1, 1) := by decide +kernel
theorem dX4_allBeen_2 : decode cX4_allBeen 2 = .ok (.iconst 0, 1) := by decide +kernel
theorem dX4_allBeen_3 : decode cX4_allBeen 3 = .ok (.istore_n 2, 1) := by decide +kernel
theorem dX4_allBeen_4 : decode cX4_allBeen 4 = .ok (.iload_n 2, 1) := by decide +kernel
theorem dX4_allBeen_5 : decode cX4_allBeen 5 = .ok (.aload_n 0, 1) := by decide +kernel
theorem dX4_allBeen_6 : decode cX4_allBeen 6 = .ok (.getfield 9, 3) := by decide +kernel
theorem dX4_allBeen_9 : decode cX4_allBeen 9 = .ok (.iconst 3, 1) := by decide +kernel
theorem dX4_allBeen_10 : decode cX4_allBeen 10 = .ok (.iaload, 1) := by decide +kernel
theorem dX4_allBeen_11 : decode cX4_allBeen 11 = .ok (.if_icmp .ge 18, 3) := by decide +kernel
theorem dX4_allBeen_14 : decode cX4_allBeen 14 = .ok (.iload_n 1, 1) := by decide +kernel
theorem dX4_allBeen_15 : decode cX4_allBeen 15 = .ok (.aload_n 0, 1) := by decide +kernel
theorem dX4_allBeen_16 : decode cX4_allBeen 16 = .ok (.iload_n 2, 1) := by decide +kernel
theorem dX4_allBeen_17 : decode cX4_allBeen 17 = .ok (.iconst 3, 1) := by decide +kernel
theorem dX4_allBeen_18 : decode cX4_allBeen 18 = .ok (.invokevirtual 44, 3) := by decide +kernel
theorem dX4_allBeen_21 : decode cX4_allBeen 21 = .ok (.ior, 1) := by decide +kernel
theorem dX4_allBeen_22 : decode cX4_allBeen 22 = .ok (.istore_n 1, 1) := by decide +kernel
theorem dX4_allBeen_23 : decode cX4_allBeen 23 = .ok (.iinc 2 1, 3) := by decide +kernel
theorem dX4_allBeen_26 : decode cX4_allBeen 26 = .ok (.goto (-22), 3) := by decide +kernel
theorem dX4_allBeen_29 : decode cX4_allBeen 29 = .ok (.iload_n 1, 1) := by decide +kernel
theorem dX4_allBeen_30 : decode cX4_allBeen 30 = .ok (.ireturn, 1) := by decide +kernel
theorem dX4_allServed_0 : decode cX4_allServed 0 = .ok (.iconst 0, 1) := by decide +kernel
theorem dX4_allServed_1 : decode cX4_allServed 1 = .ok (.istore_n 1, 1) := by decide +kernel
theorem dX4_allServed_2 : decode cX4_allServed 2 = .ok (.iconst 0, 1) := by decide +kernel
theorem dX4_allServed_3 : decode cX4_allServed 3 = .ok (.istore_n 2, 1) := by decide +kernel
theorem dX4_allServed_4 : decode cX4_allServed 4 = .ok (.iload_n 2, 1) := by decide +kernel
theorem dX4_allServed_5 : decode cX4_allServed 5 = .ok (.aload_n 0, 1) := by decide +kernel
theorem dX4_allServed_6 : decode cX4_allServed 6 = .ok (.getfield 9, 3) := by decide +kernel
theorem dX4_allServed_9 : decode cX4_allServed 9 = .ok (.iconst 2, 1) := by decide +kernel
theorem dX4_allServed_10 : decode cX4_allServed 10 = .ok (.iaload, 1) := by decide +kernel
theorem dX4_allServed_11 : decode cX4_allServed 11 = .ok (.if_icmp .ge 18, 3) := by decide +kernel
theorem dX4_allServed_14 : decode cX4_allServed 14 = .ok (.iload_n 1, 1) := by decide +kernel
theorem dX4_allServed_15 : decode cX4_allServed 15 = .ok (.aload_n 0, 1) := by decide +kernel
theorem dX4_allServed_16 : decode cX4_allServed 16 = .ok (.iload_n 2, 1) := by decide +kernel
theorem dX4_allServed_17 : decode cX4_allServed 17 = .ok (.iconst 4, 1) := by decide +kernel
theorem dX4_allServed_18 : decode cX4_allServed 18 = .ok (.invokevirtual 48, 3) := by decide +kernel
theorem dX4_allServed_21 : decode cX4_allServed 21 = .ok (.iadd, 1) := by decide +kernel
theorem dX4_allServed_22 : decode cX4_allServed 22 = .ok (.istore_n 1, 1) := by decide +kernel
theorem dX4_allServed_23 : decode cX4_allServed 23 = .ok (.iinc 2 1, 3) := by decide +kernel
theorem dX4_allServed_26 : decode cX4_allServed 26 = .ok (.goto (-22), 3) := by decide +kernel
theorem dX4_allServed_29 : decode cX4_allServed 29 = .ok (.iload_n 1, 1) := by decide +kernel
theorem dX4_allServed_30 : decode cX4_allServed 30 = .ok (.ireturn, 1) := by decide +kernel
theorem dX4_pairsApart_0 : decode cX4_pairsApart 0 = .ok (.iconst 0, 1) := by decide +kernel
theorem dX4_pairsApart_1 : decode cX4_pairsApart 1 = .ok (.istore_n 1, 1) := by decide +kernel
theorem dX4_pairsApart_2 : decode cX4_pairsApart 2 = .ok (.iconst 0, 1) := by decide +kernel
theorem dX4_pairsApart_3 : decode cX4_pairsApart 3 = .ok (.istore_n 2, 1) := by decide +kernel
theorem dX4_pairsApart_4 : decode cX4_pairsApart 4 = .ok (.iload_n 2, 1) := by decide +kernel
theorem dX4_pairsApart_5 : decode cX4_pairsApart 5 = .ok (.aload_n 0, 1) := by decide +kernel
theorem dX4_pairsApart_6 : decode cX4_pairsApart 6 = .ok (.getfield 9, 3) := by decide +kernel
theorem dX4_pairsApart_9 : decode cX4_pairsApart 9 = .ok (.iconst 3, 1) := by decide +kernel
theorem dX4_pairsApart_10 : decode cX4_pairsApart 10 = .ok (.iaload, 1) := by decide +kernel
theorem dX4_pairsApart_11 : decode cX4_pairsApart 11 = .ok (.if_icmp .ge 45, 3) := by decide +kernel
theorem dX4_pairsApart_14 : decode cX4_pairsApart 14 = .ok (.iconst 0, 1) := by decide +kernel
theorem dX4_pairsApart_15 : decode cX4_pairsApart 15 = .ok (.istore_n 3, 1) := by decide +kernel
theorem dX4_pairsApart_16 : decode cX4_pairsApart 16 = .ok (.iload_n 3, 1) := by decide +kernel
theorem dX4_pairsApart_17 : decode cX4_pairsApart 17 = .ok (.iload_n 2, 1) := by decide +kernel
theorem dX4_pairsApart_18 : decode cX4_pairsApart 18 = .ok (.if_icmp .ge 32, 3) := by decide +kernel
theorem dX4_pairsApart_21 : decode cX4_pairsApart 21 = .ok (.iload_n 1, 1) := by decide +kernel
theorem dX4_pairsApart_22 : decode cX4_pairsApart 22 = .ok (.aload_n 0, 1) := by decide +kernel
theorem dX4_pairsApart_23 : decode cX4_pairsApart 23 = .ok (.iload_n 2, 1) := by decide +kernel
theorem dX4_pairsApart_24 : decode cX4_pairsApart 24 = .ok (.iconst 1, 1) := by decide +kernel
theorem dX4_pairsApart_25 : decode cX4_pairsApart 25 = .ok (.invokevirtual 44, 3) := by decide +kernel
theorem dX4_pairsApart_28 : decode cX4_pairsApart 28 = .ok (.aload_n 0, 1) := by decide +kernel
theorem dX4_pairsApart_29 : decode cX4_pairsApart 29 = .ok (.iload_n 3, 1) := by decide +kernel
theorem dX4_pairsApart_30 : decode cX4_pairsApart 30 = .ok (.iconst 1, 1) := by decide +kernel
theorem dX4_pairsApart_31 : decode cX4_pairsApart 31 = .ok (.invokevirtual 44, 3) := by decide +kernel
theorem dX4_pairsApart_34 : decode cX4_pairsApart 34 = .ok (.if_icmp .eq 7, 3) := by decide +kernel
theorem dX4_pairsApart_37 : decode cX4_pairsApart 37 = .ok (.iconst 1, 1) := by decide +kernel
theorem dX4_pairsApart_38 : decode cX4_pairsApart 38 = .ok (.goto 4, 3) := by decide +kernel
theorem dX4_pairsApart_41 : decode cX4_pairsApart 41 = .ok (.iconst 0, 1) := by decide +kernel
theorem dX4_pairsApart_42 : decode cX4_pairsApart 42 = .ok (.iadd, 1) := by decide +kernel
theorem dX4_pairsApart_43 : decode cX4_pairsApart 43 = .ok (.istore_n 1, 1) := by decide +kernel
theorem dX4_pairsApart_44 : decode cX4_pairsApart 44 = .ok (.iinc 3 1, 3) := by decide +kernel
theorem dX4_pairsApart_47 : decode cX4_pairsApart 47 = .ok (.goto (-31), 3) := by decide +kernel
theorem dX4_pairsApart_50 : decode cX4_pairsApart 50 = .ok (.iinc 2 1, 3) := by decide +kernel
theorem dX4_pairsApart_53 : decode cX4_pairsApart 53 = .ok (.goto (-49), 3) := by decide +kernel
theorem dX4_pairsApart_56 : decode cX4_pairsApart 56 = .ok (.iload_n 1, 1) := by decide +kernel
theorem dX4_pairsApart_57 : decode cX4_pairsApart 57 = .ok (.ireturn, 1) := by decide +kernel
theorem dX4_onCard_0 : decode cX4_onCard 0 = .ok (.iconst 0, 1) := by decide +kernel
theorem dX4_onCard_1 : decode cX4_onCard 1 = .ok (.istore_n 1, 1) := by decide +kernel
theorem dX4_onCard_2 : decode cX4_onCard 2 = .ok (.iconst 0, 1) := by decide +kernel
theorem dX4_onCard_3 : decode cX4_onCard 3 = .ok (.istore_n 2, 1) := by decide +kernel
theorem dX4_onCard_4 : decode cX4_onCard 4 = .ok (.iload_n 2, 1) := by decide +kernel
theorem dX4_onCard_5 : decode cX4_onCard 5 = .ok (.aload_n 0, 1) := by decide +kernel
theorem dX4_onCard_6 : decode cX4_onCard 6 = .ok (.getfield 9, 3) := by decide +kernel
theorem dX4_onCard_9 : decode cX4_onCard 9 = .ok (.iconst 2, 1) := by decide +kernel
theorem dX4_onCard_10 : decode cX4_onCard 10 = .ok (.iaload, 1) := by decide +kernel
theorem dX4_onCard_11 : decode cX4_onCard 11 = .ok (.if_icmp .ge 28, 3) := by decide +kernel
theorem dX4_onCard_14 : decode cX4_onCard 14 = .ok (.iload_n 1, 1) := by decide +kernel
theorem dX4_onCard_15 : decode cX4_onCard 15 = .ok (.aload_n 0, 1) := by decide +kernel
theorem dX4_onCard_16 : decode cX4_onCard 16 = .ok (.iload_n 2, 1) := by decide +kernel
theorem dX4_onCard_17 : decode cX4_onCard 17 = .ok (.iconst 5, 1) := by decide +kernel
theorem dX4_onCard_18 : decode cX4_onCard 18 = .ok (.invokevirtual 48, 3) := by decide +kernel
theorem dX4_onCard_21 : decode cX4_onCard 21 = .ok (.ifCond .ne 9, 3) := by decide +kernel
theorem dX4_onCard_24 : decode cX4_onCard 24 = .ok (.iconst 1, 1) := by decide +kernel
theorem dX4_onCard_25 : decode cX4_onCard 25 = .ok (.iload_n 2, 1) := by decide +kernel
theorem dX4_onCard_26 : decode cX4_onCard 26 = .ok (.ishl, 1) := by decide +kernel
theorem dX4_onCard_27 : decode cX4_onCard 27 = .ok (.goto 4, 3) := by decide +kernel
theorem dX4_onCard_30 : decode cX4_onCard 30 = .ok (.iconst 0, 1) := by decide +kernel
theorem dX4_onCard_31 : decode cX4_onCard 31 = .ok (.ior, 1) := by decide +kernel
theorem dX4_onCard_32 : decode cX4_onCard 32 = .ok (.istore_n 1, 1) := by decide +kernel
theorem dX4_onCard_33 : decode cX4_onCard 33 = .ok (.iinc 2 1, 3) := by decide +kernel
theorem dX4_onCard_36 : decode cX4_onCard 36 = .ok (.goto (-32), 3) := by decide +kernel
theorem dX4_onCard_39 : decode cX4_onCard 39 = .ok (.iload_n 1, 1) := by decide +kernel
theorem dX4_onCard_40 : decode cX4_onCard 40 = .ok (.ireturn, 1) := by decide +kernel
theorem dX4_debtor_0 : decode cX4_debtor 0 = .ok (.iconst (-1), 1) := by decide +kernel
theorem dX4_debtor_1 : decode cX4_debtor 1 = .ok (.istore_n 1, 1) := by decide +kernel
theorem dX4_debtor_2 : decode cX4_debtor 2 = .ok (.iconst 0, 1) := by decide +kernel
theorem dX4_debtor_3 : decode cX4_debtor 3 = .ok (.istore_n 2, 1) := by decide +kernel
theorem dX4_debtor_4 : decode cX4_debtor 4 = .ok (.iload_n 2, 1) := by decide +kernel
theorem dX4_debtor_5 : decode cX4_debtor 5 = .ok (.aload_n 0, 1) := by decide +kernel
theorem dX4_debtor_6 : decode cX4_debtor 6 = .ok (.getfield 9, 3) := by decide +kernel
theorem dX4_debtor_9 : decode cX4_debtor 9 = .ok (.iconst 3, 1) := by decide +kernel
theorem dX4_debtor_10 : decode cX4_debtor 10 = .ok (.iaload, 1) := by decide +kernel
theorem dX4_debtor_11 : decode cX4_debtor 11 = .ok (.if_icmp .ge 34, 3) := by decide +kernel
theorem dX4_debtor_14 : decode cX4_debtor 14 = .ok (.iload_n 1, 1) := by decide +kernel
theorem dX4_debtor_15 : decode cX4_debtor 15 = .ok (.ifCond .lt 18, 3) := by decide +kernel
theorem dX4_debtor_18 : decode cX4_debtor 18 = .ok (.aload_n 0, 1) := by decide +kernel
theorem dX4_debtor_19 : decode cX4_debtor 19 = .ok (.iload_n 2, 1) := by decide +kernel
theorem dX4_debtor_20 : decode cX4_debtor 20 = .ok (.iconst 2, 1) := by decide +kernel
theorem dX4_debtor_21 : decode cX4_debtor 21 = .ok (.invokevirtual 44, 3) := by decide +kernel
theorem dX4_debtor_24 : decode cX4_debtor 24 = .ok (.aload_n 0, 1) := by decide +kernel
theorem dX4_debtor_25 : decode cX4_debtor 25 = .ok (.iload_n 1, 1) := by decide +kernel
theorem dX4_debtor_26 : decode cX4_debtor 26 = .ok (.iconst 2, 1) := by decide +kernel
theorem dX4_debtor_27 : decode cX4_debtor 27 = .ok (.invokevirtual 44, 3) := by decide +kernel
theorem dX4_debtor_30 : decode cX4_debtor 30 = .ok (.if_icmp .le 7, 3) := by decide +kernel
theorem dX4_debtor_33 : decode cX4_debtor 33 = .ok (.iload_n 2, 1) := by decide +kernel
theorem dX4_debtor_34 : decode cX4_debtor 34 = .ok (.goto 4, 3) := by decide +kernel
theorem dX4_debtor_37 : decode cX4_debtor 37 = .ok (.iload_n 1, 1) := by decide +kernel
theorem dX4_debtor_38 : decode cX4_debtor 38 = .ok (.istore_n 1, 1) := by decide +kernel
theorem dX4_debtor_39 : decode cX4_debtor 39 = .ok (.iinc 2 1, 3) := by decide +kernel
theorem dX4_debtor_42 : decode cX4_debtor 42 = .ok (.goto (-38), 3) := by decide +kernel
theorem dX4_debtor_45 : decode cX4_debtor 45 = .ok (.iload_n 1, 1) := by decide +kernel
theorem dX4_debtor_46 : decode cX4_debtor 46 = .ok (.ireturn, 1) := by decide +kernel
theorem dX4_now_0 : decode cX4_now 0 = .ok (.iload_n 1, 1) := by decide +kernel
theorem dX4_now_1 : decode cX4_now 1 = .ok (.tableswitch 89 0 7 #[47, 54, 59, 64, 69, 74, 79, 84], 47) := by decide +kernel
theorem dX4_now_48 : decode cX4_now 48 = .ok (.aload_n 0, 1) := by decide +kernel
theorem dX4_now_49 : decode cX4_now 49 = .ok (.getfield 9, 3) := by decide +kernel
theorem dX4_now_52 : decode cX4_now 52 = .ok (.iconst 0, 1) := by decide +kernel
theorem dX4_now_53 : decode cX4_now 53 = .ok (.iaload, 1) := by decide +kernel
theorem dX4_now_54 : decode cX4_now 54 = .ok (.ireturn, 1) := by decide +kernel
theorem dX4_now_55 : decode cX4_now 55 = .ok (.aload_n 0, 1) := by decide +kernel
theorem dX4_now_56 : decode cX4_now 56 = .ok (.invokevirtual 118, 3) := by decide +kernel
theorem dX4_now_59 : decode cX4_now 59 = .ok (.ireturn, 1) := by decide +kernel
theorem dX4_now_60 : decode cX4_now 60 = .ok (.aload_n 0, 1) := by decide +kernel
theorem dX4_now_61 : decode cX4_now 61 = .ok (.invokevirtual 122, 3) := by decide +kernel
theorem dX4_now_64 : decode cX4_now 64 = .ok (.ireturn, 1) := by decide +kernel
theorem dX4_now_65 : decode cX4_now 65 = .ok (.aload_n 0, 1) := by decide +kernel
theorem dX4_now_66 : decode cX4_now 66 = .ok (.invokevirtual 125, 3) := by decide +kernel
theorem dX4_now_69 : decode cX4_now 69 = .ok (.ireturn, 1) := by decide +kernel
theorem dX4_now_70 : decode cX4_now 70 = .ok (.aload_n 0, 1) := by decide +kernel
theorem dX4_now_71 : decode cX4_now 71 = .ok (.invokevirtual 128, 3) := by decide +kernel
theorem dX4_now_74 : decode cX4_now 74 = .ok (.ireturn, 1) := by decide +kernel
theorem dX4_now_75 : decode cX4_now 75 = .ok (.aload_n 0, 1) := by decide +kernel
theorem dX4_now_76 : decode cX4_now 76 = .ok (.invokevirtual 131, 3) := by decide +kernel
theorem dX4_now_79 : decode cX4_now 79 = .ok (.ireturn, 1) := by decide +kernel
theorem dX4_now_80 : decode cX4_now 80 = .ok (.aload_n 0, 1) := by decide +kernel
theorem dX4_now_81 : decode cX4_now 81 = .ok (.invokevirtual 134, 3) := by decide +kernel
theorem dX4_now_84 : decode cX4_now 84 = .ok (.ireturn, 1) := by decide +kernel
theorem dX4_now_85 : decode cX4_now 85 = .ok (.aload_n 0, 1) := by decide +kernel
theorem dX4_now_86 : decode cX4_now 86 = .ok (.invokevirtual 137, 3) := by decide +kernel
theorem dX4_now_89 : decode cX4_now 89 = .ok (.ireturn, 1) := by decide +kernel
theorem dX4_now_90 : decode cX4_now 90 = .ok (.aload_n 0, 1) := by decide +kernel
theorem dX4_now_91 : decode cX4_now 91 = .ok (.ldc 34, 2) := by decide +kernel
theorem dX4_now_93 : decode cX4_now 93 = .ok (.invokevirtual 36, 3) := by decide +kernel
theorem dX4_now_96 : decode cX4_now 96 = .ok (.ireturn, 1) := by decide +kernel
theorem dX4_thinks_0 : decode cX4_thinks 0 = .ok (.aload_n 0, 1) := by decide +kernel
theorem dX4_thinks_1 : decode cX4_thinks 1 = .ok (.getfield 9, 3) := by decide +kernel
theorem dX4_thinks_4 : decode cX4_thinks 4 = .ok (.aload_n 0, 1) := by decide +kernel
theorem dX4_thinks_5 : decode cX4_thinks 5 = .ok (.getfield 16, 3) := by decide +kernel
theorem dX4_thinks_8 : decode cX4_thinks 8 = .ok (.invokestatic 140, 3) := by decide +kernel
theorem dX4_thinks_11 : decode cX4_thinks 11 = .ok (.return_, 1) := by decide +kernel
theorem dX4_putsBack_0 : decode cX4_putsBack 0 = .ok (.aload_n 0, 1) := by decide +kernel
theorem dX4_putsBack_1 : decode cX4_putsBack 1 = .ok (.getfield 16, 3) := by decide +kernel
theorem dX4_putsBack_4 : decode cX4_putsBack 4 = .ok (.aload_n 0, 1) := by decide +kernel
theorem dX4_putsBack_5 : decode cX4_putsBack 5 = .ok (.getfield 9, 3) := by decide +kernel
theorem dX4_putsBack_8 : decode cX4_putsBack 8 = .ok (.invokestatic 140, 3) := by decide +kernel
theorem dX4_putsBack_11 : decode cX4_putsBack 11 = .ok (.return_, 1) := by decide +kernel
theorem dX4_behind_0 : decode cX4_behind 0 = .ok (.aload_n 0, 1) := by decide +kernel
theorem dX4_behind_1 : decode cX4_behind 1 = .ok (.invokevirtual 144, 3) := by decide +kernel
theorem dX4_behind_4 : decode cX4_behind 4 = .ok (.aload_n 0, 1) := by decide +kernel
theorem dX4_behind_5 : decode cX4_behind 5 = .ok (.iload_n 2, 1) := by decide +kernel
theorem dX4_behind_6 : decode cX4_behind 6 = .ok (.invokevirtual 114, 3) := by decide +kernel
theorem dX4_behind_9 : decode cX4_behind 9 = .ok (.aload_n 0, 1) := by decide +kernel
theorem dX4_behind_10 : decode cX4_behind 10 = .ok (.getfield 9, 3) := by decide +kernel
theorem dX4_behind_13 : decode cX4_behind 13 = .ok (.iload_n 1, 1) := by decide +kernel
theorem dX4_behind_14 : decode cX4_behind 14 = .ok (.iaload, 1) := by decide +kernel
theorem dX4_behind_15 : decode cX4_behind 15 = .ok (.istore_n 3, 1) := by decide +kernel
theorem dX4_behind_16 : decode cX4_behind 16 = .ok (.aload_n 0, 1) := by decide +kernel
theorem dX4_behind_17 : decode cX4_behind 17 = .ok (.invokevirtual 147, 3) := by decide +kernel
theorem dX4_behind_20 : decode cX4_behind 20 = .ok (.iload_n 3, 1) := by decide +kernel
theorem dX4_behind_21 : decode cX4_behind 21 = .ok (.ireturn, 1) := by decide +kernel
theorem dX4_ahead_0 : decode cX4_ahead 0 = .ok (.aload_n 0, 1) := by decide +kernel
theorem dX4_ahead_1 : decode cX4_ahead 1 = .ok (.iload_n 1, 1) := by decide +kernel
theorem dX4_ahead_2 : decode cX4_ahead 2 = .ok (.invokevirtual 86, 3) := by decide +kernel
theorem dX4_ahead_5 : decode cX4_ahead 5 = .ok (.ifCond .eq 38, 3) := by decide +kernel
theorem dX4_ahead_8 : decode cX4_ahead 8 = .ok (.iload_n 2, 1) := by decide +kernel
theorem dX4_ahead_9 : decode cX4_ahead 9 = .ok (.iconst 0, 1) := by decide +kernel
theorem dX4_ahead_10 : decode cX4_ahead 10 = .ok (.iconst 4, 1) := by decide +kernel
theorem dX4_ahead_11 : decode cX4_ahead 11 = .ok (.invokestatic 40, 3) := by decide +kernel
theorem dX4_ahead_14 : decode cX4_ahead 14 = .ok (.ifCond .eq 29, 3) := by decide +kernel
theorem dX4_ahead_17 : decode cX4_ahead 17 = .ok (.iload_n 3, 1) := by decide +kernel
theorem dX4_ahead_18 : decode cX4_ahead 18 = .ok (.iconst 0, 1) := by decide +kernel
theorem dX4_ahead_19 : decode cX4_ahead 19 = .ok (.bipush 100, 2) := by decide +kernel
theorem dX4_ahead_21 : decode cX4_ahead 21 = .ok (.invokestatic 40, 3) := by decide +kernel
theorem dX4_ahead_24 : decode cX4_ahead 24 = .ok (.ifCond .eq 19, 3) := by decide +kernel
theorem dX4_ahead_27 : decode cX4_ahead 27 = .ok (.aload_n 0, 1) := by decide +kernel
theorem dX4_ahead_28 : decode cX4_ahead 28 = .ok (.bipush 58, 2) := by decide +kernel
theorem dX4_ahead_30 : decode cX4_ahead 30 = .ok (.iconst 5, 1) := by decide +kernel
theorem dX4_ahead_31 : decode cX4_ahead 31 = .ok (.iload_n 1, 1) := by decide +kernel
theorem dX4_ahead_32 : decode cX4_ahead 32 = .ok (.imul, 1) := by decide +kernel
theorem dX4_ahead_33 : decode cX4_ahead 33 = .ok (.iadd, 1) := by decide +kernel
theorem dX4_ahead_34 : decode cX4_ahead 34 = .ok (.iload_n 2, 1) := by decide +kernel
theorem dX4_ahead_35 : decode cX4_ahead 35 = .ok (.iadd, 1) := by decide +kernel
theorem dX4_ahead_36 : decode cX4_ahead 36 = .ok (.iload_n 3, 1) := by decide +kernel
theorem dX4_ahead_37 : decode cX4_ahead 37 = .ok (.invokevirtual 150, 3) := by decide +kernel
theorem dX4_ahead_40 : decode cX4_ahead 40 = .ok (.goto 9, 3) := by decide +kernel
theorem dX4_ahead_43 : decode cX4_ahead 43 = .ok (.aload_n 0, 1) := by decide +kernel
theorem dX4_ahead_44 : decode cX4_ahead 44 = .ok (.ldc 34, 2) := by decide +kernel
theorem dX4_ahead_46 : decode cX4_ahead 46 = .ok (.invokevirtual 36, 3) := by decide +kernel
theorem dX4_ahead_49 : decode cX4_ahead 49 = .ok (.ireturn, 1) := by decide +kernel
theorem dX4_served_0 : decode cX4_served 0 = .ok (.aload_n 0, 1) := by decide +kernel
theorem dX4_served_1 : decode cX4_served 1 = .ok (.iload_n 1, 1) := by decide +kernel
theorem dX4_served_2 : decode cX4_served 2 = .ok (.invokevirtual 80, 3) := by decide +kernel
theorem dX4_served_5 : decode cX4_served 5 = .ok (.ifCond .eq 30, 3) := by decide +kernel
theorem dX4_served_8 : decode cX4_served 8 = .ok (.iload_n 2, 1) := by decide +kernel
theorem dX4_served_9 : decode cX4_served 9 = .ok (.iconst 0, 1) := by decide +kernel
theorem dX4_served_10 : decode cX4_served 10 = .ok (.bipush 100, 2) := by decide +kernel
theorem dX4_served_12 : decode cX4_served 12 = .ok (.invokestatic 40, 3) := by decide +kernel
theorem dX4_served_15 : decode cX4_served 15 = .ok (.ifCond .eq 20, 3) := by decide +kernel
theorem dX4_served_18 : decode cX4_served 18 = .ok (.aload_n 0, 1) := by decide +kernel
theorem dX4_served_19 : decode cX4_served 19 = .ok (.bipush 10, 2) := by decide +kernel
theorem dX4_served_21 : decode cX4_served 21 = .ok (.bipush 6, 2) := by decide +kernel
theorem dX4_served_23 : decode cX4_served 23 = .ok (.iload_n 1, 1) := by decide +kernel
theorem dX4_served_24 : decode cX4_served 24 = .ok (.imul, 1) := by decide +kernel
theorem dX4_served_25 : decode cX4_served 25 = .ok (.iadd, 1) := by decide +kernel
theorem dX4_served_26 : decode cX4_served 26 = .ok (.iconst 4, 1) := by decide +kernel
theorem dX4_served_27 : decode cX4_served 27 = .ok (.iadd, 1) := by decide +kernel
theorem dX4_served_28 : decode cX4_served 28 = .ok (.iload_n 2, 1) := by decide +kernel
theorem dX4_served_29 : decode cX4_served 29 = .ok (.invokevirtual 150, 3) := by decide +kernel
theorem dX4_served_32 : decode cX4_served 32 = .ok (.goto 9, 3) := by decide +kernel
theorem dX4_served_35 : decode cX4_served 35 = .ok (.aload_n 0, 1) := by decide +kernel
theorem dX4_served_36 : decode cX4_served 36 = .ok (.ldc 34, 2) := by decide +kernel
theorem dX4_served_38 : decode cX4_served 38 = .ok (.invokevirtual 36, 3) := by decide +kernel
theorem dX4_served_41 : decode cX4_served 41 = .ok (.ireturn, 1) := by decide +kernel
theorem dX4_when_0 : decode cX4_when 0 = .ok (.aload_n 0, 1) := by decide +kernel
theorem dX4_when_1 : decode cX4_when 1 = .ok (.iload_n 1, 1) := by decide +kernel
theorem dX4_when_2 : decode cX4_when 2 = .ok (.invokevirtual 86, 3) := by decide +kernel
theorem dX4_when_5 : decode cX4_when 5 = .ok (.ifCond .eq 10, 3) := by decide +kernel
theorem dX4_when_8 : decode cX4_when 8 = .ok (.iload_n 2, 1) := by decide +kernel
theorem dX4_when_9 : decode cX4_when 9 = .ok (.invokestatic 66, 3) := by decide +kernel
theorem dX4_when_12 : decode cX4_when 12 = .ok (.ifCond .ne 10, 3) := by decide +kernel
theorem dX4_when_15 : decode cX4_when 15 = .ok (.aload_n 0, 1) := by decide +kernel
theorem dX4_when_16 : decode cX4_when 16 = .ok (.ldc 34, 2) := by decide +kernel
theorem dX4_when_18 : decode cX4_when 18 = .ok (.invokevirtual 36, 3) := by decide +kernel
theorem dX4_when_21 : decode cX4_when 21 = .ok (.ireturn, 1) := by decide +kernel
theorem dX4_when_22 : decode cX4_when 22 = .ok (.aload_n 0, 1) := by decide +kernel
theorem dX4_when_23 : decode cX4_when 23 = .ok (.invokevirtual 144, 3) := by decide +kernel
theorem dX4_when_26 : decode cX4_when 26 = .ok (.iconst 0, 1) := by decide +kernel
theorem dX4_when_27 : decode cX4_when 27 = .ok (.istore_n 3, 1) := by decide +kernel
theorem dX4_when_28 : decode cX4_when 28 = .ok (.iload_n 3, 1) := by decide +kernel
theorem dX4_when_29 : decode cX4_when 29 = .ok (.sipush 200, 3) := by decide +kernel
theorem dX4_when_32 : decode cX4_when 32 = .ok (.if_icmp .gt 23, 3) := by decide +kernel
theorem dX4_when_35 : decode cX4_when 35 = .ok (.aload_n 0, 1) := by decide +kernel
theorem dX4_when_36 : decode cX4_when 36 = .ok (.iload_n 1, 1) := by decide +kernel
theorem dX4_when_37 : decode cX4_when 37 = .ok (.iconst 1, 1) := by decide +kernel
theorem dX4_when_38 : decode cX4_when 38 = .ok (.invokevirtual 44, 3) := by decide +kernel
theorem dX4_when_41 : decode cX4_when 41 = .ok (.iload_n 2, 1) := by decide +kernel
theorem dX4_when_42 : decode cX4_when 42 = .ok (.if_icmp .eq 13, 3) := by decide +kernel
theorem dX4_when_45 : decode cX4_when 45 = .ok (.aload_n 0, 1) := by decide +kernel
theorem dX4_when_46 : decode cX4_when 46 = .ok (.invokevirtual 111, 3) := by decide +kernel
theorem dX4_when_49 : decode cX4_when 49 = .ok (.iinc 3 1, 3) := by decide +kernel
theorem dX4_when_52 : decode cX4_when 52 = .ok (.goto (-24), 3) := by decide +kernel
theorem dX4_when_55 : decode cX4_when 55 = .ok (.aload_n 0, 1) := by decide +kernel
theorem dX4_when_56 : decode cX4_when 56 = .ok (.invokevirtual 147, 3) := by decide +kernel
theorem dX4_when_59 : decode cX4_when 59 = .ok (.iload_n 3, 1) := by decide +kernel
theorem dX4_when_60 : decode cX4_when 60 = .ok (.sipush 200, 3) := by decide +kernel
theorem dX4_when_63 : decode cX4_when 63 = .ok (.if_icmp .le 12, 3) := by decide +kernel
theorem dX4_when_66 : decode cX4_when 66 = .ok (.aload_n 0, 1) := by decide +kernel
theorem dX4_when_67 : decode cX4_when 67 = .ok (.ldc 35, 2) := by decide +kernel
theorem dX4_when_69 : decode cX4_when 69 = .ok (.invokevirtual 36, 3) := by decide +kernel
theorem dX4_when_72 : decode cX4_when 72 = .ok (.goto 4, 3) := by decide +kernel
theorem dX4_when_75 : decode cX4_when 75 = .ok (.iload_n 3, 1) := by decide +kernel
theorem dX4_when_76 : decode cX4_when 76 = .ok (.ireturn, 1) := by decide +kernel
theorem dX4_owes_0 : decode cX4_owes 0 = .ok (.aload_n 0, 1) := by decide +kernel
theorem dX4_owes_1 : decode cX4_owes 1 = .ok (.iload_n 1, 1) := by decide +kernel
theorem dX4_owes_2 : decode cX4_owes 2 = .ok (.invokevirtual 86, 3) := by decide +kernel
theorem dX4_owes_5 : decode cX4_owes 5 = .ok (.ifCond .eq 13, 3) := by decide +kernel
theorem dX4_owes_8 : decode cX4_owes 8 = .ok (.iload_n 2, 1) := by decide +kernel
theorem dX4_owes_9 : decode cX4_owes 9 = .ok (.iconst 0, 1) := by decide +kernel
theorem dX4_owes_10 : decode cX4_owes 10 = .ok (.ldc 89, 2) := by decide +kernel
theorem dX4_owes_12 : decode cX4_owes 12 = .ok (.invokestatic 40, 3) := by decide +kernel
theorem dX4_owes_15 : decode cX4_owes 15 = .ok (.ifCond .ne 10, 3) := by decide +kernel
theorem dX4_owes_18 : decode cX4_owes 18 = .ok (.aload_n 0, 1) := by decide +kernel
theorem dX4_owes_19 : decode cX4_owes 19 = .ok (.ldc 34, 2) := by decide +kernel
theorem dX4_owes_21 : decode cX4_owes 21 = .ok (.invokevirtual 36, 3) := by decide +kernel
theorem dX4_owes_24 : decode cX4_owes 24 = .ok (.ireturn, 1) := by decide +kernel
theorem dX4_owes_25 : decode cX4_owes 25 = .ok (.aload_n 0, 1) := by decide +kernel
theorem dX4_owes_26 : decode cX4_owes 26 = .ok (.invokevirtual 144, 3) := by decide +kernel
theorem dX4_owes_29 : decode cX4_owes 29 = .ok (.iconst 0, 1) := by decide +kernel
theorem dX4_owes_30 : decode cX4_owes 30 = .ok (.istore_n 3, 1) := by decide +kernel
theorem dX4_owes_31 : decode cX4_owes 31 = .ok (.iload_n 3, 1) := by decide +kernel
theorem dX4_owes_32 : decode cX4_owes 32 = .ok (.sipush 200, 3) := by decide +kernel
theorem dX4_owes_35 : decode cX4_owes 35 = .ok (.if_icmp .gt 23, 3) := by decide +kernel
theorem dX4_owes_38 : decode cX4_owes 38 = .ok (.aload_n 0, 1) := by decide +kernel
theorem dX4_owes_39 : decode cX4_owes 39 = .ok (.iload_n 1, 1) := by decide +kernel
theorem dX4_owes_40 : decode cX4_owes 40 = .ok (.iconst 2, 1) := by decide +kernel
theorem dX4_owes_41 : decode cX4_owes 41 = .ok (.invokevirtual 44, 3) := by decide +kernel
theorem dX4_owes_44 : decode cX4_owes 44 = .ok (.iload_n 2, 1) := by decide +kernel
theorem dX4_owes_45 : decode cX4_owes 45 = .ok (.if_icmp .ge 13, 3) := by decide +kernel
theorem dX4_owes_48 : decode cX4_owes 48 = .ok (.aload_n 0, 1) := by decide +kernel
theorem dX4_owes_49 : decode cX4_owes 49 = .ok (.invokevirtual 111, 3) := by decide +kernel
theorem dX4_owes_52 : decode cX4_owes 52 = .ok (.iinc 3 1, 3) := by decide +kernel
theorem dX4_owes_55 : decode cX4_owes 55 = .ok (.goto (-24), 3) := by decide +kernel
theorem dX4_owes_58 : decode cX4_owes 58 = .ok (.aload_n 0, 1) := by decide +kernel
theorem dX4_owes_59 : decode cX4_owes 59 = .ok (.invokevirtual 147, 3) := by decide +kernel
theorem dX4_owes_62 : decode cX4_owes 62 = .ok (.iload_n 3, 1) := by decide +kernel
theorem dX4_owes_63 : decode cX4_owes 63 = .ok (.sipush 200, 3) := by decide +kernel
theorem dX4_owes_66 : decode cX4_owes 66 = .ok (.if_icmp .le 12, 3) := by decide +kernel
theorem dX4_owes_69 : decode cX4_owes 69 = .ok (.aload_n 0, 1) := by decide +kernel
theorem dX4_owes_70 : decode cX4_owes 70 = .ok (.ldc 35, 2) := by decide +kernel
theorem dX4_owes_72 : decode cX4_owes 72 = .ok (.invokevirtual 36, 3) := by decide +kernel
theorem dX4_owes_75 : decode cX4_owes 75 = .ok (.goto 4, 3) := by decide +kernel
theorem dX4_owes_78 : decode cX4_owes 78 = .ok (.iload_n 3, 1) := by decide +kernel
theorem dX4_owes_79 : decode cX4_owes 79 = .ok (.ireturn, 1) := by decide +kernel
theorem dX4_part_0 : decode cX4_part 0 = .ok (.aload_n 0, 1) := by decide +kernel
theorem dX4_part_1 : decode cX4_part 1 = .ok (.iload_n 1, 1) := by decide +kernel
theorem dX4_part_2 : decode cX4_part 2 = .ok (.invokevirtual 86, 3) := by decide +kernel
theorem dX4_part_5 : decode cX4_part 5 = .ok (.ifCond .eq 16, 3) := by decide +kernel
theorem dX4_part_8 : decode cX4_part 8 = .ok (.aload_n 0, 1) := by decide +kernel
theorem dX4_part_9 : decode cX4_part 9 = .ok (.iload_n 2, 1) := by decide +kernel
theorem dX4_part_10 : decode cX4_part 10 = .ok (.invokevirtual 86, 3) := by decide +kernel
theorem dX4_part_13 : decode cX4_part 13 = .ok (.ifCond .eq 8, 3) := by decide +kernel
theorem dX4_part_16 : decode cX4_part 16 = .ok (.iload_n 1, 1) := by decide +kernel
theorem dX4_part_17 : decode cX4_part 17 = .ok (.iload_n 2, 1) := by decide +kernel
theorem dX4_part_18 : decode cX4_part 18 = .ok (.if_icmp .ne 10, 3) := by decide +kernel
theorem dX4_part_21 : decode cX4_part 21 = .ok (.aload_n 0, 1) := by decide +kernel
theorem dX4_part_22 : decode cX4_part 22 = .ok (.ldc 34, 2) := by decide +kernel
theorem dX4_part_24 : decode cX4_part 24 = .ok (.invokevirtual 36, 3) := by decide +kernel
theorem dX4_part_27 : decode cX4_part 27 = .ok (.ireturn, 1) := by decide +kernel
theorem dX4_part_28 : decode cX4_part 28 = .ok (.aload_n 0, 1) := by decide +kernel
theorem dX4_part_29 : decode cX4_part 29 = .ok (.invokevirtual 144, 3) := by decide +kernel
theorem dX4_part_32 : decode cX4_part 32 = .ok (.iconst 0, 1) := by decide +kernel
theorem dX4_part_33 : decode cX4_part 33 = .ok (.istore_n 3, 1) := by decide +kernel
theorem dX4_part_34 : decode cX4_part 34 = .ok (.iload_n 3, 1) := by decide +kernel
theorem dX4_part_35 : decode cX4_part 35 = .ok (.sipush 200, 3) := by decide +kernel
theorem dX4_part_38 : decode cX4_part 38 = .ok (.if_icmp .gt 28, 3) := by decide +kernel
theorem dX4_part_41 : decode cX4_part 41 = .ok (.aload_n 0, 1) := by decide +kernel
theorem dX4_part_42 : decode cX4_part 42 = .ok (.iload_n 1, 1) := by decide +kernel
theorem dX4_part_43 : decode cX4_part 43 = .ok (.iconst 1, 1) := by decide +kernel
theorem dX4_part_44 : decode cX4_part 44 = .ok (.invokevirtual 44, 3) := by decide +kernel
theorem dX4_part_47 : decode cX4_part 47 = .ok (.aload_n 0, 1) := by decide +kernel
theorem dX4_part_48 : decode cX4_part 48 = .ok (.iload_n 2, 1) := by decide +kernel
theorem dX4_part_49 : decode cX4_part 49 = .ok (.iconst 1, 1) := by decide +kernel
theorem dX4_part_50 : decode cX4_part 50 = .ok (.invokevirtual 44, 3) := by decide +kernel
theorem dX4_part_53 : decode cX4_part 53 = .ok (.if_icmp .ne 13, 3) := by decide +kernel
theorem dX4_part_56 : decode cX4_part 56 = .ok (.aload_n 0, 1) := by decide +kernel
theorem dX4_part_57 : decode cX4_part 57 = .ok (.invokevirtual 111, 3) := by decide +kernel
theorem dX4_part_60 : decode cX4_part 60 = .ok (.iinc 3 1, 3) := by decide +kernel
theorem dX4_part_63 : decode cX4_part 63 = .ok (.goto (-29), 3) := by decide +kernel
theorem dX4_part_66 : decode cX4_part 66 = .ok (.aload_n 0, 1) := by decide +kernel
theorem dX4_part_67 : decode cX4_part 67 = .ok (.invokevirtual 147, 3) := by decide +kernel
theorem dX4_part_70 : decode cX4_part 70 = .ok (.iload_n 3, 1) := by decide +kernel
theorem dX4_part_71 : decode cX4_part 71 = .ok (.sipush 200, 3) := by decide +kernel
theorem dX4_part_74 : decode cX4_part 74 = .ok (.if_icmp .le 12, 3) := by decide +kernel
theorem dX4_part_77 : decode cX4_part 77 = .ok (.aload_n 0, 1) := by decide +kernel
theorem dX4_part_78 : decode cX4_part 78 = .ok (.ldc 35, 2) := by decide +kernel
theorem dX4_part_80 : decode cX4_part 80 = .ok (.invokevirtual 36, 3) := by decide +kernel
theorem dX4_part_83 : decode cX4_part 83 = .ok (.goto 4, 3) := by decide +kernel
theorem dX4_part_86 : decode cX4_part 86 = .ok (.iload_n 3, 1) := by decide +kernel
theorem dX4_part_87 : decode cX4_part 87 = .ok (.ireturn, 1) := by decide +kernel
theorem dX4_leastBy_0 : decode cX4_leastBy 0 = .ok (.aload_n 0, 1) := by decide +kernel
theorem dX4_leastBy_1 : decode cX4_leastBy 1 = .ok (.invokevirtual 144, 3) := by decide +kernel
theorem dX4_leastBy_4 : decode cX4_leastBy 4 = .ok (.iconst (-1), 1) := by decide +kernel
theorem dX4_leastBy_5 : decode cX4_leastBy 5 = .ok (.istore 5, 2) := by decide +kernel
theorem dX4_leastBy_7 : decode cX4_leastBy 7 = .ok (.iconst 0, 1) := by decide +kernel
theorem dX4_leastBy_8 : decode cX4_leastBy 8 = .ok (.istore 6, 2) := by decide +kernel
theorem dX4_leastBy_10 : decode cX4_leastBy 10 = .ok (.iconst 0, 1) := by decide +kernel
theorem dX4_leastBy_11 : decode cX4_leastBy 11 = .ok (.istore 7, 2) := by decide +kernel
theorem dX4_leastBy_13 : decode cX4_leastBy 13 = .ok (.iload 7, 2) := by decide +kernel
theorem dX4_leastBy_15 : decode cX4_leastBy 15 = .ok (.iload_n 3, 1) := by decide +kernel
theorem dX4_leastBy_16 : decode cX4_leastBy 16 = .ok (.if_icmp .ge 82, 3) := by decide +kernel
theorem dX4_leastBy_19 : decode cX4_leastBy 19 = .ok (.aload_n 0, 1) := by decide +kernel
theorem dX4_leastBy_20 : decode cX4_leastBy 20 = .ok (.getfield 9, 3) := by decide +kernel
theorem dX4_leastBy_23 : decode cX4_leastBy 23 = .ok (.iload_n 1, 1) := by decide +kernel
theorem dX4_leastBy_24 : decode cX4_leastBy 24 = .ok (.iload_n 2, 1) := by decide +kernel
theorem dX4_leastBy_25 : decode cX4_leastBy 25 = .ok (.iload 7, 2) := by decide +kernel
theorem dX4_leastBy_27 : decode cX4_leastBy 27 = .ok (.iadd, 1) := by decide +kernel
theorem dX4_leastBy_28 : decode cX4_leastBy 28 = .ok (.iastore, 1) := by decide +kernel
theorem dX4_leastBy_29 : decode cX4_leastBy 29 = .ok (.aload_n 0, 1) := by decide +kernel
theorem dX4_leastBy_30 : decode cX4_leastBy 30 = .ok (.iload 4, 2) := by decide +kernel
theorem dX4_leastBy_32 : decode cX4_leastBy 32 = .ok (.invokevirtual 114, 3) := by decide +kernel
theorem dX4_leastBy_35 : decode cX4_leastBy 35 = .ok (.aload_n 0, 1) := by decide +kernel
theorem dX4_leastBy_36 : decode cX4_leastBy 36 = .ok (.invokevirtual 118, 3) := by decide +kernel
theorem dX4_leastBy_39 : decode cX4_leastBy 39 = .ok (.istore 8, 2) := by decide +kernel
theorem dX4_leastBy_41 : decode cX4_leastBy 41 = .ok (.aload_n 0, 1) := by decide +kernel
theorem dX4_leastBy_42 : decode cX4_leastBy 42 = .ok (.invokevirtual 147, 3) := by decide +kernel
theorem dX4_leastBy_45 : decode cX4_leastBy 45 = .ok (.iload 5, 2) := by decide +kernel
theorem dX4_leastBy_47 : decode cX4_leastBy 47 = .ok (.ifCond .lt 10, 3) := by decide +kernel
theorem dX4_leastBy_50 : decode cX4_leastBy 50 = .ok (.iload 8, 2) := by decide +kernel
theorem dX4_leastBy_52 : decode cX4_leastBy 52 = .ok (.iload 6, 2) := by decide +kernel
theorem dX4_leastBy_54 : decode cX4_leastBy 54 = .ok (.if_icmp .ge 7, 3) := by decide +kernel
theorem dX4_leastBy_57 : decode cX4_leastBy 57 = .ok (.iconst 1, 1) := by decide +kernel
theorem dX4_leastBy_58 : decode cX4_leastBy 58 = .ok (.goto 4, 3) := by decide +kernel
theorem dX4_leastBy_61 : decode cX4_leastBy 61 = .ok (.iconst 0, 1) := by decide +kernel
theorem dX4_leastBy_62 : decode cX4_leastBy 62 = .ok (.istore 9, 2) := by decide +kernel
theorem dX4_leastBy_64 : decode cX4_leastBy 64 = .ok (.iload 9, 2) := by decide +kernel
theorem dX4_leastBy_66 : decode cX4_leastBy 66 = .ok (.ifCond .eq 8, 3) := by decide +kernel
theorem dX4_leastBy_69 : decode cX4_leastBy 69 = .ok (.iload 7, 2) := by decide +kernel
theorem dX4_leastBy_71 : decode cX4_leastBy 71 = .ok (.goto 5, 3) := by decide +kernel
theorem dX4_leastBy_74 : decode cX4_leastBy 74 = .ok (.iload 5, 2) := by decide +kernel
theorem dX4_leastBy_76 : decode cX4_leastBy 76 = .ok (.istore 5, 2) := by decide +kernel
theorem dX4_leastBy_78 : decode cX4_leastBy 78 = .ok (.iload 9, 2) := by decide +kernel
theorem dX4_leastBy_80 : decode cX4_leastBy 80 = .ok (.ifCond .eq 8, 3) := by decide +kernel
theorem dX4_leastBy_83 : decode cX4_leastBy 83 = .ok (.iload 8, 2) := by decide +kernel
theorem dX4_leastBy_85 : decode cX4_leastBy 85 = .ok (.goto 5, 3) := by decide +kernel
theorem dX4_leastBy_88 : decode cX4_leastBy 88 = .ok (.iload 6, 2) := by decide +kernel
theorem dX4_leastBy_90 : decode cX4_leastBy 90 = .ok (.istore 6, 2) := by decide +kernel
theorem dX4_leastBy_92 : decode cX4_leastBy 92 = .ok (.iinc 7 1, 3) := by decide +kernel
theorem dX4_leastBy_95 : decode cX4_leastBy 95 = .ok (.goto (-82), 3) := by decide +kernel
theorem dX4_leastBy_98 : decode cX4_leastBy 98 = .ok (.iload 5, 2) := by decide +kernel
theorem dX4_leastBy_100 : decode cX4_leastBy 100 = .ok (.ireturn, 1) := by decide +kernel
theorem dX4_dishFor_0 : decode cX4_dishFor 0 = .ok (.iload_n 1, 1) := by decide +kernel
theorem dX4_dishFor_1 : decode cX4_dishFor 1 = .ok (.invokestatic 55, 3) := by decide +kernel
theorem dX4_dishFor_4 : decode cX4_dishFor 4 = .ok (.ifCond .eq 40, 3) := by decide +kernel
theorem dX4_dishFor_7 : decode cX4_dishFor 7 = .ok (.iload_n 2, 1) := by decide +kernel
theorem dX4_dishFor_8 : decode cX4_dishFor 8 = .ok (.iconst 0, 1) := by decide +kernel
theorem dX4_dishFor_9 : decode cX4_dishFor 9 = .ok (.bipush 60, 2) := by decide +kernel
theorem dX4_dishFor_11 : decode cX4_dishFor 11 = .ok (.invokestatic 40, 3) := by decide +kernel
theorem dX4_dishFor_14 : decode cX4_dishFor 14 = .ok (.ifCond .eq 30, 3) := by decide +kernel
theorem dX4_dishFor_17 : decode cX4_dishFor 17 = .ok (.aload_n 0, 1) := by decide +kernel
theorem dX4_dishFor_18 : decode cX4_dishFor 18 = .ok (.iconst 4, 1) := by decide +kernel
theorem dX4_dishFor_19 : decode cX4_dishFor 19 = .ok (.iload_n 1, 1) := by decide +kernel
theorem dX4_dishFor_20 : decode cX4_dishFor 20 = .ok (.iadd, 1) := by decide +kernel
theorem dX4_dishFor_21 : decode cX4_dishFor 21 = .ok (.aload_n 0, 1) := by decide +kernel
theorem dX4_dishFor_22 : decode cX4_dishFor 22 = .ok (.getfield 9, 3) := by decide +kernel
theorem dX4_dishFor_25 : decode cX4_dishFor 25 = .ok (.iconst 4, 1) := by decide +kernel
theorem dX4_dishFor_26 : decode cX4_dishFor 26 = .ok (.iload_n 1, 1) := by decide +kernel
theorem dX4_dishFor_27 : decode cX4_dishFor 27 = .ok (.iadd, 1) := by decide +kernel
theorem dX4_dishFor_28 : decode cX4_dishFor 28 = .ok (.iaload, 1) := by decide +kernel
theorem dX4_dishFor_29 : decode cX4_dishFor 29 = .ok (.bipush 10, 2) := by decide +kernel
theorem dX4_dishFor_31 : decode cX4_dishFor 31 = .ok (.idiv, 1) := by decide +kernel
theorem dX4_dishFor_32 : decode cX4_dishFor 32 = .ok (.bipush 10, 2) := by decide +kernel
theorem dX4_dishFor_34 : decode cX4_dishFor 34 = .ok (.imul, 1) := by decide +kernel
theorem dX4_dishFor_35 : decode cX4_dishFor 35 = .ok (.bipush 8, 2) := by decide +kernel
theorem dX4_dishFor_37 : decode cX4_dishFor 37 = .ok (.iload_n 2, 1) := by decide +kernel
theorem dX4_dishFor_38 : decode cX4_dishFor 38 = .ok (.invokevirtual 153, 3) := by decide +kernel
theorem dX4_dishFor_41 : decode cX4_dishFor 41 = .ok (.goto 9, 3) := by decide +kernel
theorem dX4_dishFor_44 : decode cX4_dishFor 44 = .ok (.aload_n 0, 1) := by decide +kernel
theorem dX4_dishFor_45 : decode cX4_dishFor 45 = .ok (.ldc 34, 2) := by decide +kernel
theorem dX4_dishFor_47 : decode cX4_dishFor 47 = .ok (.invokevirtual 36, 3) := by decide +kernel
theorem dX4_dishFor_50 : decode cX4_dishFor 50 = .ok (.ireturn, 1) := by decide +kernel
theorem dX4_kindFor_0 : decode cX4_kindFor 0 = .ok (.aload_n 0, 1) := by decide +kernel
theorem dX4_kindFor_1 : decode cX4_kindFor 1 = .ok (.iload_n 1, 1) := by decide +kernel
theorem dX4_kindFor_2 : decode cX4_kindFor 2 = .ok (.invokevirtual 80, 3) := by decide +kernel
theorem dX4_kindFor_5 : decode cX4_kindFor 5 = .ok (.ifCond .eq 31, 3) := by decide +kernel
theorem dX4_kindFor_8 : decode cX4_kindFor 8 = .ok (.iload_n 2, 1) := by decide +kernel
theorem dX4_kindFor_9 : decode cX4_kindFor 9 = .ok (.iconst 0, 1) := by decide +kernel
theorem dX4_kindFor_10 : decode cX4_kindFor 10 = .ok (.bipush 60, 2) := by decide +kernel
theorem dX4_kindFor_12 : decode cX4_kindFor 12 = .ok (.invokestatic 40, 3) := by decide +kernel
theorem dX4_kindFor_15 : decode cX4_kindFor 15 = .ok (.ifCond .eq 21, 3) := by decide +kernel
theorem dX4_kindFor_18 : decode cX4_kindFor 18 = .ok (.aload_n 0, 1) := by decide +kernel
theorem dX4_kindFor_19 : decode cX4_kindFor 19 = .ok (.bipush 10, 2) := by decide +kernel
theorem dX4_kindFor_21 : decode cX4_kindFor 21 = .ok (.bipush 6, 2) := by decide +kernel
theorem dX4_kindFor_23 : decode cX4_kindFor 23 = .ok (.iload_n 1, 1) := by decide +kernel
theorem dX4_kindFor_24 : decode cX4_kindFor 24 = .ok (.imul, 1) := by decide +kernel
theorem dX4_kindFor_25 : decode cX4_kindFor 25 = .ok (.iadd, 1) := by decide +kernel
theorem dX4_kindFor_26 : decode cX4_kindFor 26 = .ok (.iconst 0, 1) := by decide +kernel
theorem dX4_kindFor_27 : decode cX4_kindFor 27 = .ok (.bipush 7, 2) := by decide +kernel
theorem dX4_kindFor_29 : decode cX4_kindFor 29 = .ok (.iload_n 2, 1) := by decide +kernel
theorem dX4_kindFor_30 : decode cX4_kindFor 30 = .ok (.invokevirtual 153, 3) := by decide +kernel
theorem dX4_kindFor_33 : decode cX4_kindFor 33 = .ok (.goto 9, 3) := by decide +kernel
theorem dX4_kindFor_36 : decode cX4_kindFor 36 = .ok (.aload_n 0, 1) := by decide +kernel
theorem dX4_kindFor_37 : decode cX4_kindFor 37 = .ok (.ldc 34, 2) := by decide +kernel
theorem dX4_kindFor_39 : decode cX4_kindFor 39 = .ok (.invokevirtual 36, 3) := by decide +kernel
theorem dX4_kindFor_42 : decode cX4_kindFor 42 = .ok (.ireturn, 1) := by decide +kernel
theorem dX4_bentFor_0 : decode cX4_bentFor 0 = .ok (.aload_n 0, 1) := by decide +kernel
theorem dX4_bentFor_1 : decode cX4_bentFor 1 = .ok (.iload_n 1, 1) := by decide +kernel
theorem dX4_bentFor_2 : decode cX4_bentFor 2 = .ok (.invokevirtual 86, 3) := by decide +kernel
theorem dX4_bentFor_5 : decode cX4_bentFor 5 = .ok (.ifCond .eq 20, 3) := by decide +kernel
theorem dX4_bentFor_8 : decode cX4_bentFor 8 = .ok (.iload_n 2, 1) := by decide +kernel
theorem dX4_bentFor_9 : decode cX4_bentFor 9 = .ok (.invokestatic 66, 3) := by decide +kernel
theorem dX4_bentFor_12 : decode cX4_bentFor 12 = .ok (.ifCond .eq 13, 3) := by decide +kernel
theorem dX4_bentFor_15 : decode cX4_bentFor 15 = .ok (.iload_n 3, 1) := by decide +kernel
theorem dX4_bentFor_16 : decode cX4_bentFor 16 = .ok (.iconst 0, 1) := by decide +kernel
theorem dX4_bentFor_17 : decode cX4_bentFor 17 = .ok (.bipush 60, 2) := by decide +kernel
theorem dX4_bentFor_19 : decode cX4_bentFor 19 = .ok (.invokestatic 40, 3) := by decide +kernel
theorem dX4_bentFor_22 : decode cX4_bentFor 22 = .ok (.ifCond .ne 10, 3) := by decide +kernel
theorem dX4_bentFor_25 : decode cX4_bentFor 25 = .ok (.aload_n 0, 1) := by decide +kernel
theorem dX4_bentFor_26 : decode cX4_bentFor 26 = .ok (.ldc 34, 2) := by decide +kernel
theorem dX4_bentFor_28 : decode cX4_bentFor 28 = .ok (.invokevirtual 36, 3) := by decide +kernel
theorem dX4_bentFor_31 : decode cX4_bentFor 31 = .ok (.ireturn, 1) := by decide +kernel
theorem dX4_bentFor_32 : decode cX4_bentFor 32 = .ok (.aload_n 0, 1) := by decide +kernel
theorem dX4_bentFor_33 : decode cX4_bentFor 33 = .ok (.invokevirtual 144, 3) := by decide +kernel
theorem dX4_bentFor_36 : decode cX4_bentFor 36 = .ok (.iconst (-1), 1) := by decide +kernel
theorem dX4_bentFor_37 : decode cX4_bentFor 37 = .ok (.istore 4, 2) := by decide +kernel
theorem dX4_bentFor_39 : decode cX4_bentFor 39 = .ok (.iconst 0, 1) := by decide +kernel
theorem dX4_bentFor_40 : decode cX4_bentFor 40 = .ok (.istore 5, 2) := by decide +kernel
theorem dX4_bentFor_42 : decode cX4_bentFor 42 = .ok (.iload 5, 2) := by decide +kernel
theorem dX4_bentFor_44 : decode cX4_bentFor 44 = .ok (.bipush 99, 2) := by decide +kernel
theorem dX4_bentFor_46 : decode cX4_bentFor 46 = .ok (.if_icmp .gt 49, 3) := by decide +kernel
theorem dX4_bentFor_49 : decode cX4_bentFor 49 = .ok (.iload 4, 2) := by decide +kernel
theorem dX4_bentFor_51 : decode cX4_bentFor 51 = .ok (.ifCond .ge 44, 3) := by decide +kernel
theorem dX4_bentFor_54 : decode cX4_bentFor 54 = .ok (.aload_n 0, 1) := by decide +kernel
theorem dX4_bentFor_55 : decode cX4_bentFor 55 = .ok (.iload_n 1, 1) := by decide +kernel
theorem dX4_bentFor_56 : decode cX4_bentFor 56 = .ok (.iconst 0, 1) := by decide +kernel
theorem dX4_bentFor_57 : decode cX4_bentFor 57 = .ok (.iload 5, 2) := by decide +kernel
theorem dX4_bentFor_59 : decode cX4_bentFor 59 = .ok (.invokevirtual 74, 3) := by decide +kernel
theorem dX4_bentFor_62 : decode cX4_bentFor 62 = .ok (.aload_n 0, 1) := by decide +kernel
theorem dX4_bentFor_63 : decode cX4_bentFor 63 = .ok (.iload_n 3, 1) := by decide +kernel
theorem dX4_bentFor_64 : decode cX4_bentFor 64 = .ok (.invokevirtual 114, 3) := by decide +kernel
theorem dX4_bentFor_67 : decode cX4_bentFor 67 = .ok (.aload_n 0, 1) := by decide +kernel
theorem dX4_bentFor_68 : decode cX4_bentFor 68 = .ok (.iload_n 1, 1) := by decide +kernel
theorem dX4_bentFor_69 : decode cX4_bentFor 69 = .ok (.iconst 1, 1) := by decide +kernel
theorem dX4_bentFor_70 : decode cX4_bentFor 70 = .ok (.invokevirtual 44, 3) := by decide +kernel
theorem dX4_bentFor_73 : decode cX4_bentFor 73 = .ok (.iload_n 2, 1) := by decide +kernel
theorem dX4_bentFor_74 : decode cX4_bentFor 74 = .ok (.if_icmp .ne 8, 3) := by decide +kernel
theorem dX4_bentFor_77 : decode cX4_bentFor 77 = .ok (.iload 5, 2) := by decide +kernel
theorem dX4_bentFor_79 : decode cX4_bentFor 79 = .ok (.goto 4, 3) := by decide +kernel
theorem dX4_bentFor_82 : decode cX4_bentFor 82 = .ok (.iconst (-1), 1) := by decide +kernel
theorem dX4_bentFor_83 : decode cX4_bentFor 83 = .ok (.istore 4, 2) := by decide +kernel
theorem dX4_bentFor_85 : decode cX4_bentFor 85 = .ok (.aload_n 0, 1) := by decide +kernel
theorem dX4_bentFor_86 : decode cX4_bentFor 86 = .ok (.invokevirtual 147, 3) := by decide +kernel
theorem dX4_bentFor_89 : decode cX4_bentFor 89 = .ok (.iinc 5 1, 3) := by decide +kernel
theorem dX4_bentFor_92 : decode cX4_bentFor 92 = .ok (.goto (-50), 3) := by decide +kernel
theorem dX4_bentFor_95 : decode cX4_bentFor 95 = .ok (.aload_n 0, 1) := by decide +kernel
theorem dX4_bentFor_96 : decode cX4_bentFor 96 = .ok (.iload 4, 2) := by decide +kernel
theorem dX4_bentFor_98 : decode cX4_bentFor 98 = .ok (.invokevirtual 157, 3) := by decide +kernel
theorem dX4_bentFor_101 : decode cX4_bentFor 101 = .ok (.ireturn, 1) := by decide +kernel
theorem dX4_doBring_0 : decode cX4_doBring 0 = .ok (.aload_n 0, 1) := by decide +kernel
theorem dX4_doBring_1 : decode cX4_doBring 1 = .ok (.getfield 9, 3) := by decide +kernel
theorem dX4_doBring_4 : decode cX4_doBring 4 = .ok (.iconst 2, 1) := by decide +kernel
theorem dX4_doBring_5 : decode cX4_doBring 5 = .ok (.iaload, 1) := by decide +kernel
theorem dX4_doBring_6 : decode cX4_doBring 6 = .ok (.istore 5, 2) := by decide +kernel
theorem dX4_doBring_8 : decode cX4_doBring 8 = .ok (.iconst 1, 1) := by decide +kernel
theorem dX4_doBring_9 : decode cX4_doBring 9 = .ok (.istore 6, 2) := by decide +kernel
theorem dX4_doBring_11 : decode cX4_doBring 11 = .ok (.iload_n 3, 1) := by decide +kernel
theorem dX4_doBring_12 : decode cX4_doBring 12 = .ok (.istore 7, 2) := by decide +kernel
theorem dX4_doBring_14 : decode cX4_doBring 14 = .ok (.iconst 0, 1) := by decide +kernel
theorem dX4_doBring_15 : decode cX4_doBring 15 = .ok (.istore 8, 2) := by decide +kernel
theorem dX4_doBring_17 : decode cX4_doBring 17 = .ok (.iload 8, 2) := by decide +kernel
theorem dX4_doBring_19 : decode cX4_doBring 19 = .ok (.iload 4, 2) := by decide +kernel
theorem dX4_doBring_21 : decode cX4_doBring 21 = .ok (.if_icmp .ge 53, 3) := by decide +kernel
theorem dX4_doBring_24 : decode cX4_doBring 24 = .ok (.iload 6, 2) := by decide +kernel
theorem dX4_doBring_26 : decode cX4_doBring 26 = .ok (.ifCond .eq 20, 3) := by decide +kernel
theorem dX4_doBring_29 : decode cX4_doBring 29 = .ok (.aload_n 0, 1) := by decide +kernel
theorem dX4_doBring_30 : decode cX4_doBring 30 = .ok (.iload 7, 2) := by decide +kernel
theorem dX4_doBring_32 : decode cX4_doBring 32 = .ok (.iload 5, 2) := by decide +kernel
theorem dX4_doBring_34 : decode cX4_doBring 34 = .ok (.irem, 1) := by decide +kernel
theorem dX4_doBring_35 : decode cX4_doBring 35 = .ok (.iconst 5, 1) := by decide +kernel
theorem dX4_doBring_36 : decode cX4_doBring 36 = .ok (.invokevirtual 48, 3) := by decide +kernel
theorem dX4_doBring_39 : decode cX4_doBring 39 = .ok (.ifCond .ne 7, 3) := by decide +kernel
theorem dX4_doBring_42 : decode cX4_doBring 42 = .ok (.iconst 1, 1) := by decide +kernel
theorem dX4_doBring_43 : decode cX4_doBring 43 = .ok (.goto 4, 3) := by decide +kernel
theorem dX4_doBring_46 : decode cX4_doBring 46 = .ok (.iconst 0, 1) := by decide +kernel
theorem dX4_doBring_47 : decode cX4_doBring 47 = .ok (.istore 6, 2) := by decide +kernel
theorem dX4_doBring_49 : decode cX4_doBring 49 = .ok (.aload_n 0, 1) := by decide +kernel
theorem dX4_doBring_50 : decode cX4_doBring 50 = .ok (.iload_n 1, 1) := by decide +kernel
theorem dX4_doBring_51 : decode cX4_doBring 51 = .ok (.iload 7, 2) := by decide +kernel
theorem dX4_doBring_53 : decode cX4_doBring 53 = .ok (.iload 5, 2) := by decide +kernel
theorem dX4_doBring_55 : decode cX4_doBring 55 = .ok (.irem, 1) := by decide +kernel
theorem dX4_doBring_56 : decode cX4_doBring 56 = .ok (.invokevirtual 108, 3) := by decide +kernel
theorem dX4_doBring_59 : decode cX4_doBring 59 = .ok (.istore 9, 2) := by decide +kernel
theorem dX4_doBring_61 : decode cX4_doBring 61 = .ok (.iload 7, 2) := by decide +kernel
theorem dX4_doBring_63 : decode cX4_doBring 63 = .ok (.iload 5, 2) := by decide +kernel
theorem dX4_doBring_65 : decode cX4_doBring 65 = .ok (.idiv, 1) := by decide +kernel
theorem dX4_doBring_66 : decode cX4_doBring 66 = .ok (.istore 7, 2) := by decide +kernel
theorem dX4_doBring_68 : decode cX4_doBring 68 = .ok (.iinc 8 1, 3) := by decide +kernel
theorem dX4_doBring_71 : decode cX4_doBring 71 = .ok (.goto (-54), 3) := by decide +kernel
theorem dX4_doBring_74 : decode cX4_doBring 74 = .ok (.iload 6, 2) := by decide +kernel
theorem dX4_doBring_76 : decode cX4_doBring 76 = .ok (.ifCond .eq 17, 3) := by decide +kernel
theorem dX4_doBring_79 : decode cX4_doBring 79 = .ok (.aload_n 0, 1) := by decide +kernel
theorem dX4_doBring_80 : decode cX4_doBring 80 = .ok (.iload_n 1, 1) := by decide +kernel
theorem dX4_doBring_81 : decode cX4_doBring 81 = .ok (.iconst 1, 1) := by decide +kernel
theorem dX4_doBring_82 : decode cX4_doBring 82 = .ok (.invokevirtual 44, 3) := by decide +kernel
theorem dX4_doBring_85 : decode cX4_doBring 85 = .ok (.iload_n 2, 1) := by decide +kernel
theorem dX4_doBring_86 : decode cX4_doBring 86 = .ok (.if_icmp .ne 7, 3) := by decide +kernel
theorem dX4_doBring_89 : decode cX4_doBring 89 = .ok (.iconst 1, 1) := by decide +kernel
theorem dX4_doBring_90 : decode cX4_doBring 90 = .ok (.goto 4, 3) := by decide +kernel
theorem dX4_doBring_93 : decode cX4_doBring 93 = .ok (.iconst 0, 1) := by decide +kernel
theorem dX4_doBring_94 : decode cX4_doBring 94 = .ok (.istore 8, 2) := by decide +kernel
theorem dX4_doBring_96 : decode cX4_doBring 96 = .ok (.aload_n 0, 1) := by decide +kernel
theorem dX4_doBring_97 : decode cX4_doBring 97 = .ok (.invokevirtual 147, 3) := by decide +kernel
theorem dX4_doBring_100 : decode cX4_doBring 100 = .ok (.iload 8, 2) := by decide +kernel
theorem dX4_doBring_102 : decode cX4_doBring 102 = .ok (.ireturn, 1) := by decide +kernel
theorem dX4_courses_0 : decode cX4_courses 0 = .ok (.aload_n 0, 1) := by decide +kernel
theorem dX4_courses_1 : decode cX4_courses 1 = .ok (.iload_n 1, 1) := by decide +kernel
theorem dX4_courses_2 : decode cX4_courses 2 = .ok (.invokevirtual 86, 3) := by decide +kernel
theorem dX4_courses_5 : decode cX4_courses 5 = .ok (.ifCond .eq 10, 3) := by decide +kernel
theorem dX4_courses_8 : decode cX4_courses 8 = .ok (.iload_n 2, 1) := by decide +kernel
theorem dX4_courses_9 : decode cX4_courses 9 = .ok (.invokestatic 66, 3) := by decide +kernel
theorem dX4_courses_12 : decode cX4_courses 12 = .ok (.ifCond .ne 10, 3) := by decide +kernel
theorem dX4_courses_15 : decode cX4_courses 15 = .ok (.aload_n 0, 1) := by decide +kernel
theorem dX4_courses_16 : decode cX4_courses 16 = .ok (.ldc 34, 2) := by decide +kernel
theorem dX4_courses_18 : decode cX4_courses 18 = .ok (.invokevirtual 36, 3) := by decide +kernel
theorem dX4_courses_21 : decode cX4_courses 21 = .ok (.ireturn, 1) := by decide +kernel
theorem dX4_courses_22 : decode cX4_courses 22 = .ok (.aload_n 0, 1) := by decide +kernel
theorem dX4_courses_23 : decode cX4_courses 23 = .ok (.invokevirtual 144, 3) := by decide +kernel
theorem dX4_courses_26 : decode cX4_courses 26 = .ok (.iconst 1, 1) := by decide +kernel
theorem dX4_courses_27 : decode cX4_courses 27 = .ok (.istore_n 3, 1) := by decide +kernel
theorem dX4_courses_28 : decode cX4_courses 28 = .ok (.iconst 0, 1) := by decide +kernel
theorem dX4_courses_29 : decode cX4_courses 29 = .ok (.istore 4, 2) := by decide +kernel
theorem dX4_courses_31 : decode cX4_courses 31 = .ok (.iload 4, 2) := by decide +kernel
theorem dX4_courses_33 : decode cX4_courses 33 = .ok (.iconst 4, 1) := by decide +kernel
theorem dX4_courses_34 : decode cX4_courses 34 = .ok (.if_icmp .gt 49, 3) := by decide +kernel
theorem dX4_courses_37 : decode cX4_courses 37 = .ok (.iconst 0, 1) := by decide +kernel
theorem dX4_courses_38 : decode cX4_courses 38 = .ok (.istore 5, 2) := by decide +kernel
theorem dX4_courses_40 : decode cX4_courses 40 = .ok (.iload 5, 2) := by decide +kernel
theorem dX4_courses_42 : decode cX4_courses 42 = .ok (.iload_n 3, 1) := by decide +kernel
theorem dX4_courses_43 : decode cX4_courses 43 = .ok (.if_icmp .ge 25, 3) := by decide +kernel
theorem dX4_courses_46 : decode cX4_courses 46 = .ok (.aload_n 0, 1) := by decide +kernel
theorem dX4_courses_47 : decode cX4_courses 47 = .ok (.iload_n 1, 1) := by decide +kernel
theorem dX4_courses_48 : decode cX4_courses 48 = .ok (.iload_n 2, 1) := by decide +kernel
theorem dX4_courses_49 : decode cX4_courses 49 = .ok (.iload 5, 2) := by decide +kernel
theorem dX4_courses_51 : decode cX4_courses 51 = .ok (.iload 4, 2) := by decide +kernel
theorem dX4_courses_53 : decode cX4_courses 53 = .ok (.invokevirtual 160, 3) := by decide +kernel
theorem dX4_courses_56 : decode cX4_courses 56 = .ok (.ifCond .eq 6, 3) := by decide +kernel
theorem dX4_courses_59 : decode cX4_courses 59 = .ok (.iload 4, 2) := by decide +kernel
theorem dX4_courses_61 : decode cX4_courses 61 = .ok (.ireturn, 1) := by decide +kernel
theorem dX4_courses_62 : decode cX4_courses 62 = .ok (.iinc 5 1, 3) := by decide +kernel
theorem dX4_courses_65 : decode cX4_courses 65 = .ok (.goto (-25), 3) := by decide +kernel
theorem dX4_courses_68 : decode cX4_courses 68 = .ok (.iload_n 3, 1) := by decide +kernel
theorem dX4_courses_69 : decode cX4_courses 69 = .ok (.aload_n 0, 1) := by decide +kernel
theorem dX4_courses_70 : decode cX4_courses 70 = .ok (.getfield 9, 3) := by decide +kernel
theorem dX4_courses_73 : decode cX4_courses 73 = .ok (.iconst 2, 1) := by decide +kernel
theorem dX4_courses_74 : decode cX4_courses 74 = .ok (.iaload, 1) := by decide +kernel
theorem dX4_courses_75 : decode cX4_courses 75 = .ok (.imul, 1) := by decide +kernel
theorem dX4_courses_76 : decode cX4_courses 76 = .ok (.istore_n 3, 1) := by decide +kernel
theorem dX4_courses_77 : decode cX4_courses 77 = .ok (.iinc 4 1, 3) := by decide +kernel
theorem dX4_courses_80 : decode cX4_courses 80 = .ok (.goto (-49), 3) := by decide +kernel
theorem dX4_courses_83 : decode cX4_courses 83 = .ok (.aload_n 0, 1) := by decide +kernel
theorem dX4_courses_84 : decode cX4_courses 84 = .ok (.ldc 35, 2) := by decide +kernel
theorem dX4_courses_86 : decode cX4_courses 86 = .ok (.invokevirtual 36, 3) := by decide +kernel
theorem dX4_courses_89 : decode cX4_courses 89 = .ok (.ireturn, 1) := by decide +kernel
theorem dX4_isElsewhere_0 : decode cX4_isElsewhere 0 = .ok (.iconst 0, 1) := by decide +kernel
theorem dX4_isElsewhere_1 : decode cX4_isElsewhere 1 = .ok (.istore 5, 2) := by decide +kernel
theorem dX4_isElsewhere_3 : decode cX4_isElsewhere 3 = .ok (.iload 5, 2) := by decide +kernel
theorem dX4_isElsewhere_5 : decode cX4_isElsewhere 5 = .ok (.aload_n 0, 1) := by decide +kernel
theorem dX4_isElsewhere_6 : decode cX4_isElsewhere 6 = .ok (.getfield 9, 3) := by decide +kernel
theorem dX4_isElsewhere_9 : decode cX4_isElsewhere 9 = .ok (.iconst 2, 1) := by decide +kernel
theorem dX4_isElsewhere_10 : decode cX4_isElsewhere 10 = .ok (.iaload, 1) := by decide +kernel
theorem dX4_isElsewhere_11 : decode cX4_isElsewhere 11 = .ok (.if_icmp .ge 30, 3) := by decide +kernel
theorem dX4_isElsewhere_14 : decode cX4_isElsewhere 14 = .ok (.aload_n 0, 1) := by decide +kernel
theorem dX4_isElsewhere_15 : decode cX4_isElsewhere 15 = .ok (.iload 5, 2) := by decide +kernel
theorem dX4_isElsewhere_17 : decode cX4_isElsewhere 17 = .ok (.iconst 5, 1) := by decide +kernel
theorem dX4_isElsewhere_18 : decode cX4_isElsewhere 18 = .ok (.aload_n 0, 1) := by decide +kernel
theorem dX4_isElsewhere_19 : decode cX4_isElsewhere 19 = .ok (.iload 5, 2) := by decide +kernel
theorem dX4_isElsewhere_21 : decode cX4_isElsewhere 21 = .ok (.iconst 5, 1) := by decide +kernel
theorem dX4_isElsewhere_22 : decode cX4_isElsewhere 22 = .ok (.invokevirtual 48, 3) := by decide +kernel
theorem dX4_isElsewhere_25 : decode cX4_isElsewhere 25 = .ok (.iload_n 1, 1) := by decide +kernel
theorem dX4_isElsewhere_26 : decode cX4_isElsewhere 26 = .ok (.iload 5, 2) := by decide +kernel
theorem dX4_isElsewhere_28 : decode cX4_isElsewhere 28 = .ok (.ishr, 1) := by decide +kernel
theorem dX4_isElsewhere_29 : decode cX4_isElsewhere 29 = .ok (.iconst 1, 1) := by decide +kernel
theorem dX4_isElsewhere_30 : decode cX4_isElsewhere 30 = .ok (.iand, 1) := by decide +kernel
theorem dX4_isElsewhere_31 : decode cX4_isElsewhere 31 = .ok (.ior, 1) := by decide +kernel
theorem dX4_isElsewhere_32 : decode cX4_isElsewhere 32 = .ok (.invokevirtual 62, 3) := by decide +kernel
theorem dX4_isElsewhere_35 : decode cX4_isElsewhere 35 = .ok (.iinc 5 1, 3) := by decide +kernel
theorem dX4_isElsewhere_38 : decode cX4_isElsewhere 38 = .ok (.goto (-35), 3) := by decide +kernel
theorem dX4_isElsewhere_41 : decode cX4_isElsewhere 41 = .ok (.aload_n 0, 1) := by decide +kernel
theorem dX4_isElsewhere_42 : decode cX4_isElsewhere 42 = .ok (.iload 4, 2) := by decide +kernel
theorem dX4_isElsewhere_44 : decode cX4_isElsewhere 44 = .ok (.invokevirtual 114, 3) := by decide +kernel
theorem dX4_isElsewhere_47 : decode cX4_isElsewhere 47 = .ok (.aload_n 0, 1) := by decide +kernel
theorem dX4_isElsewhere_48 : decode cX4_isElsewhere 48 = .ok (.iload_n 2, 1) := by decide +kernel
theorem dX4_isElsewhere_49 : decode cX4_isElsewhere 49 = .ok (.iconst 1, 1) := by decide +kernel
theorem dX4_isElsewhere_50 : decode cX4_isElsewhere 50 = .ok (.invokevirtual 44, 3) := by decide +kernel
theorem dX4_isElsewhere_53 : decode cX4_isElsewhere 53 = .ok (.iload_n 3, 1) := by decide +kernel
theorem dX4_isElsewhere_54 : decode cX4_isElsewhere 54 = .ok (.if_icmp .eq 7, 3) := by decide +kernel
theorem dX4_isElsewhere_57 : decode cX4_isElsewhere 57 = .ok (.iconst 1, 1) := by decide +kernel
theorem dX4_isElsewhere_58 : decode cX4_isElsewhere 58 = .ok (.goto 4, 3) := by decide +kernel
theorem dX4_isElsewhere_61 : decode cX4_isElsewhere 61 = .ok (.iconst 0, 1) := by decide +kernel
theorem dX4_isElsewhere_62 : decode cX4_isElsewhere 62 = .ok (.istore 5, 2) := by decide +kernel
theorem dX4_isElsewhere_64 : decode cX4_isElsewhere 64 = .ok (.aload_n 0, 1) := by decide +kernel
theorem dX4_isElsewhere_65 : decode cX4_isElsewhere 65 = .ok (.invokevirtual 147, 3) := by decide +kernel
theorem dX4_isElsewhere_68 : decode cX4_isElsewhere 68 = .ok (.iload 5, 2) := by decide +kernel
theorem dX4_isElsewhere_70 : decode cX4_isElsewhere 70 = .ok (.ireturn, 1) := by decide +kernel
theorem dX4_strike_0 : decode cX4_strike 0 = .ok (.aload_n 0, 1) := by decide +kernel
theorem dX4_strike_1 : decode cX4_strike 1 = .ok (.iload_n 1, 1) := by decide +kernel
theorem dX4_strike_2 : decode cX4_strike 2 = .ok (.invokevirtual 86, 3) := by decide +kernel
theorem dX4_strike_5 : decode cX4_strike 5 = .ok (.ifCond .eq 20, 3) := by decide +kernel
theorem dX4_strike_8 : decode cX4_strike 8 = .ok (.iload_n 2, 1) := by decide +kernel
theorem dX4_strike_9 : decode cX4_strike 9 = .ok (.invokestatic 66, 3) := by decide +kernel
theorem dX4_strike_12 : decode cX4_strike 12 = .ok (.ifCond .eq 13, 3) := by decide +kernel
theorem dX4_strike_15 : decode cX4_strike 15 = .ok (.iload_n 3, 1) := by decide +kernel
theorem dX4_strike_16 : decode cX4_strike 16 = .ok (.iconst 0, 1) := by decide +kernel
theorem dX4_strike_17 : decode cX4_strike 17 = .ok (.bipush 20, 2) := by decide +kernel
theorem dX4_strike_19 : decode cX4_strike 19 = .ok (.invokestatic 40, 3) := by decide +kernel
theorem dX4_strike_22 : decode cX4_strike 22 = .ok (.ifCond .ne 10, 3) := by decide +kernel
theorem dX4_strike_25 : decode cX4_strike 25 = .ok (.aload_n 0, 1) := by decide +kernel
theorem dX4_strike_26 : decode cX4_strike 26 = .ok (.ldc 34, 2) := by decide +kernel
theorem dX4_strike_28 : decode cX4_strike 28 = .ok (.invokevirtual 36, 3) := by decide +kernel
theorem dX4_strike_31 : decode cX4_strike 31 = .ok (.ireturn, 1) := by decide +kernel
theorem dX4_strike_32 : decode cX4_strike 32 = .ok (.aload_n 0, 1) := by decide +kernel
theorem dX4_strike_33 : decode cX4_strike 33 = .ok (.invokevirtual 144, 3) := by decide +kernel
theorem dX4_strike_36 : decode cX4_strike 36 = .ok (.iconst (-1), 1) := by decide +kernel
theorem dX4_strike_37 : decode cX4_strike 37 = .ok (.istore 4, 2) := by decide +kernel
theorem dX4_strike_39 : decode cX4_strike 39 = .ok (.iconst 0, 1) := by decide +kernel
theorem dX4_strike_40 : decode cX4_strike 40 = .ok (.istore 5, 2) := by decide +kernel
theorem dX4_strike_42 : decode cX4_strike 42 = .ok (.iload 5, 2) := by decide +kernel
theorem dX4_strike_44 : decode cX4_strike 44 = .ok (.iconst 1, 1) := by decide +kernel
theorem dX4_strike_45 : decode cX4_strike 45 = .ok (.aload_n 0, 1) := by decide +kernel
theorem dX4_strike_46 : decode cX4_strike 46 = .ok (.getfield 9, 3) := by decide +kernel
theorem dX4_strike_49 : decode cX4_strike 49 = .ok (.iconst 2, 1) := by decide +kernel
theorem dX4_strike_50 : decode cX4_strike 50 = .ok (.iaload, 1) := by decide +kernel
theorem dX4_strike_51 : decode cX4_strike 51 = .ok (.ishl, 1) := by decide +kernel
theorem dX4_strike_52 : decode cX4_strike 52 = .ok (.if_icmp .ge 60, 3) := by decide +kernel
theorem dX4_strike_55 : decode cX4_strike 55 = .ok (.iload 4, 2) := by decide +kernel
theorem dX4_strike_57 : decode cX4_strike 57 = .ok (.ifCond .lt 16, 3) := by decide +kernel
theorem dX4_strike_60 : decode cX4_strike 60 = .ok (.iload 5, 2) := by decide +kernel
theorem dX4_strike_62 : decode cX4_strike 62 = .ok (.invokestatic 164, 3) := by decide +kernel
theorem dX4_strike_65 : decode cX4_strike 65 = .ok (.iload 4, 2) := by decide +kernel
theorem dX4_strike_67 : decode cX4_strike 67 = .ok (.invokestatic 164, 3) := by decide +kernel
theorem dX4_strike_70 : decode cX4_strike 70 = .ok (.if_icmp .ge 7, 3) := by decide +kernel
theorem dX4_strike_73 : decode cX4_strike 73 = .ok (.iconst 1, 1) := by decide +kernel
theorem dX4_strike_74 : decode cX4_strike 74 = .ok (.goto 4, 3) := by decide +kernel
theorem dX4_strike_77 : decode cX4_strike 77 = .ok (.iconst 0, 1) := by decide +kernel
theorem dX4_strike_78 : decode cX4_strike 78 = .ok (.istore 6, 2) := by decide +kernel
theorem dX4_strike_80 : decode cX4_strike 80 = .ok (.iload 6, 2) := by decide +kernel
theorem dX4_strike_82 : decode cX4_strike 82 = .ok (.ifCond .eq 20, 3) := by decide +kernel
theorem dX4_strike_85 : decode cX4_strike 85 = .ok (.aload_n 0, 1) := by decide +kernel
theorem dX4_strike_86 : decode cX4_strike 86 = .ok (.iload 5, 2) := by decide +kernel
theorem dX4_strike_88 : decode cX4_strike 88 = .ok (.iload_n 1, 1) := by decide +kernel
theorem dX4_strike_89 : decode cX4_strike 89 = .ok (.iload_n 2, 1) := by decide +kernel
theorem dX4_strike_90 : decode cX4_strike 90 = .ok (.iload_n 3, 1) := by decide +kernel
theorem dX4_strike_91 : decode cX4_strike 91 = .ok (.invokevirtual 167, 3) := by decide +kernel
theorem dX4_strike_94 : decode cX4_strike 94 = .ok (.ifCond .eq 8, 3) := by decide +kernel
theorem dX4_strike_97 : decode cX4_strike 97 = .ok (.iload 5, 2) := by decide +kernel
theorem dX4_strike_99 : decode cX4_strike 99 = .ok (.goto 5, 3) := by decide +kernel
theorem dX4_strike_102 : decode cX4_strike 102 = .ok (.iload 4, 2) := by decide +kernel
theorem dX4_strike_104 : decode cX4_strike 104 = .ok (.istore 4, 2) := by decide +kernel
theorem dX4_strike_106 : decode cX4_strike 106 = .ok (.iinc 5 1, 3) := by decide +kernel
theorem dX4_strike_109 : decode cX4_strike 109 = .ok (.goto (-67), 3) := by decide +kernel
theorem dX4_strike_112 : decode cX4_strike 112 = .ok (.aload_n 0, 1) := by decide +kernel
theorem dX4_strike_113 : decode cX4_strike 113 = .ok (.iload 4, 2) := by decide +kernel
theorem dX4_strike_115 : decode cX4_strike 115 = .ok (.invokevirtual 157, 3) := by decide +kernel
theorem dX4_strike_118 : decode cX4_strike 118 = .ok (.ireturn, 1) := by decide +kernel
theorem dX4_isSheet_0 : decode cX4_isSheet 0 = .ok (.iload_n 0, 1) := by decide +kernel
theorem dX4_isSheet_1 : decode cX4_isSheet 1 = .ok (.iconst 0, 1) := by decide +kernel
theorem dX4_isSheet_2 : decode cX4_isSheet 2 = .ok (.iconst 3, 1) := by decide +kernel
theorem dX4_isSheet_3 : decode cX4_isSheet 3 = .ok (.invokestatic 40, 3) := by decide +kernel
theorem dX4_isSheet_6 : decode cX4_isSheet 6 = .ok (.ireturn, 1) := by decide +kernel
theorem dX4_notThere_0 : decode cX4_notThere 0 = .ok (.iload_n 1, 1) := by decide +kernel
theorem dX4_notThere_1 : decode cX4_notThere 1 = .ok (.invokestatic 170, 3) := by decide +kernel
theorem dX4_notThere_4 : decode cX4_notThere 4 = .ok (.ifCond .ne 8, 3) := by decide +kernel
theorem dX4_notThere_7 : decode cX4_notThere 7 = .ok (.ldc 34, 2) := by decide +kernel
theorem dX4_notThere_9 : decode cX4_notThere 9 = .ok (.goto 18, 3) := by decide +kernel
theorem dX4_notThere_12 : decode cX4_notThere 12 = .ok (.aload_n 0, 1) := by decide +kernel
theorem dX4_notThere_13 : decode cX4_notThere 13 = .ok (.getfield 22, 3) := by decide +kernel
theorem dX4_notThere_16 : decode cX4_notThere 16 = .ok (.iload_n 1, 1) := by decide +kernel
theorem dX4_notThere_17 : decode cX4_notThere 17 = .ok (.iaload, 1) := by decide +kernel
theorem dX4_notThere_18 : decode cX4_notThere 18 = .ok (.ifCond .ne 8, 3) := by decide +kernel
theorem dX4_notThere_21 : decode cX4_notThere 21 = .ok (.ldc 173, 2) := by decide +kernel
theorem dX4_notThere_23 : decode cX4_notThere 23 = .ok (.goto 4, 3) := by decide +kernel
theorem dX4_notThere_26 : decode cX4_notThere 26 = .ok (.iconst 0, 1) := by decide +kernel
theorem dX4_notThere_27 : decode cX4_notThere 27 = .ok (.ireturn, 1) := by decide +kernel
theorem dX4_isTold_0 : decode cX4_isTold 0 = .ok (.iconst 1, 1) := by decide +kernel
theorem dX4_isTold_1 : decode cX4_isTold 1 = .ok (.istore_n 3, 1) := by decide +kernel
theorem dX4_isTold_2 : decode cX4_isTold 2 = .ok (.iconst 0, 1) := by decide +kernel
theorem dX4_isTold_3 : decode cX4_isTold 3 = .ok (.istore 4, 2) := by decide +kernel
theorem dX4_isTold_5 : decode cX4_isTold 5 = .ok (.iload 4, 2) := by decide +kernel
theorem dX4_isTold_7 : decode cX4_isTold 7 = .ok (.aload_n 0, 1) := by decide +kernel
theorem dX4_isTold_8 : decode cX4_isTold 8 = .ok (.getfield 25, 3) := by decide +kernel
theorem dX4_isTold_11 : decode cX4_isTold 11 = .ok (.iload_n 1, 1) := by decide +kernel
theorem dX4_isTold_12 : decode cX4_isTold 12 = .ok (.iaload, 1) := by decide +kernel
theorem dX4_isTold_13 : decode cX4_isTold 13 = .ok (.if_icmp .ge 54, 3) := by decide +kernel
theorem dX4_isTold_16 : decode cX4_isTold 16 = .ok (.iload_n 3, 1) := by decide +kernel
theorem dX4_isTold_17 : decode cX4_isTold 17 = .ok (.ifCond .eq 50, 3) := by decide +kernel
theorem dX4_isTold_20 : decode cX4_isTold 20 = .ok (.aload_n 0, 1) := by decide +kernel
theorem dX4_isTold_21 : decode cX4_isTold 21 = .ok (.getfield 28, 3) := by decide +kernel
theorem dX4_isTold_24 : decode cX4_isTold 24 = .ok (.bipush 40, 2) := by decide +kernel
theorem dX4_isTold_26 : decode cX4_isTold 26 = .ok (.iload_n 1, 1) := by decide +kernel
theorem dX4_isTold_27 : decode cX4_isTold 27 = .ok (.imul, 1) := by decide +kernel
theorem dX4_isTold_28 : decode cX4_isTold 28 = .ok (.iload 4, 2) := by decide +kernel
theorem dX4_isTold_30 : decode cX4_isTold 30 = .ok (.iadd, 1) := by decide +kernel
theorem dX4_isTold_31 : decode cX4_isTold 31 = .ok (.iaload, 1) := by decide +kernel
theorem dX4_isTold_32 : decode cX4_isTold 32 = .ok (.istore 5, 2) := by decide +kernel
theorem dX4_isTold_34 : decode cX4_isTold 34 = .ok (.iload 5, 2) := by decide +kernel
theorem dX4_isTold_36 : decode cX4_isTold 36 = .ok (.iconst (-1), 1) := by decide +kernel
theorem dX4_isTold_37 : decode cX4_isTold 37 = .ok (.if_icmp .eq 14, 3) := by decide +kernel
theorem dX4_isTold_40 : decode cX4_isTold 40 = .ok (.iload 5, 2) := by decide +kernel
theorem dX4_isTold_42 : decode cX4_isTold 42 = .ok (.aload_n 0, 1) := by decide +kernel
theorem dX4_isTold_43 : decode cX4_isTold 43 = .ok (.iload_n 2, 1) := by decide +kernel
theorem dX4_isTold_44 : decode cX4_isTold 44 = .ok (.iconst 1, 1) := by decide +kernel
theorem dX4_isTold_45 : decode cX4_isTold 45 = .ok (.invokevirtual 44, 3) := by decide +kernel
theorem dX4_isTold_48 : decode cX4_isTold 48 = .ok (.if_icmp .ne 7, 3) := by decide +kernel
theorem dX4_isTold_51 : decode cX4_isTold 51 = .ok (.iconst 1, 1) := by decide +kernel
theorem dX4_isTold_52 : decode cX4_isTold 52 = .ok (.goto 4, 3) := by decide +kernel
theorem dX4_isTold_55 : decode cX4_isTold 55 = .ok (.iconst 0, 1) := by decide +kernel
theorem dX4_isTold_56 : decode cX4_isTold 56 = .ok (.istore_n 3, 1) := by decide +kernel
theorem dX4_isTold_57 : decode cX4_isTold 57 = .ok (.aload_n 0, 1) := by decide +kernel
theorem dX4_isTold_58 : decode cX4_isTold 58 = .ok (.invokevirtual 111, 3) := by decide +kernel
theorem dX4_isTold_61 : decode cX4_isTold 61 = .ok (.iinc 4 1, 3) := by decide +kernel
theorem dX4_isTold_64 : decode cX4_isTold 64 = .ok (.goto (-59), 3) := by decide +kernel
theorem dX4_isTold_67 : decode cX4_isTold 67 = .ok (.aload_n 0, 1) := by decide +kernel
theorem dX4_isTold_68 : decode cX4_isTold 68 = .ok (.invokevirtual 147, 3) := by decide +kernel
theorem dX4_isTold_71 : decode cX4_isTold 71 = .ok (.iload_n 3, 1) := by decide +kernel
theorem dX4_isTold_72 : decode cX4_isTold 72 = .ok (.ireturn, 1) := by decide +kernel
theorem dX4_fits_0 : decode cX4_fits 0 = .ok (.aload_n 0, 1) := by decide +kernel
theorem dX4_fits_1 : decode cX4_fits 1 = .ok (.iload_n 1, 1) := by decide +kernel
theorem dX4_fits_2 : decode cX4_fits 2 = .ok (.invokevirtual 174, 3) := by decide +kernel
theorem dX4_fits_5 : decode cX4_fits 5 = .ok (.istore_n 3, 1) := by decide +kernel
theorem dX4_fits_6 : decode cX4_fits 6 = .ok (.iload_n 3, 1) := by decide +kernel
theorem dX4_fits_7 : decode cX4_fits 7 = .ok (.ifCond .ne 16, 3) := by decide +kernel
theorem dX4_fits_10 : decode cX4_fits 10 = .ok (.aload_n 0, 1) := by decide +kernel
theorem dX4_fits_11 : decode cX4_fits 11 = .ok (.iload_n 2, 1) := by decide +kernel
theorem dX4_fits_12 : decode cX4_fits 12 = .ok (.invokevirtual 86, 3) := by decide +kernel
theorem dX4_fits_15 : decode cX4_fits 15 = .ok (.ifCond .ne 8, 3) := by decide +kernel
theorem dX4_fits_18 : decode cX4_fits 18 = .ok (.ldc 34, 2) := by decide +kernel
theorem dX4_fits_20 : decode cX4_fits 20 = .ok (.goto 4, 3) := by decide +kernel
theorem dX4_fits_23 : decode cX4_fits 23 = .ok (.iload_n 3, 1) := by decide +kernel
theorem dX4_fits_24 : decode cX4_fits 24 = .ok (.istore_n 3, 1) := by decide +kernel
theorem dX4_fits_25 : decode cX4_fits 25 = .ok (.iload_n 3, 1) := by decide +kernel
theorem dX4_fits_26 : decode cX4_fits 26 = .ok (.ifCond .eq 9, 3) := by decide +kernel
theorem dX4_fits_29 : decode cX4_fits 29 = .ok (.aload_n 0, 1) := by decide +kernel
theorem dX4_fits_30 : decode cX4_fits 30 = .ok (.iload_n 3, 1) := by decide +kernel
theorem dX4_fits_31 : decode cX4_fits 31 = .ok (.invokevirtual 36, 3) := by decide +kernel
theorem dX4_fits_34 : decode cX4_fits 34 = .ok (.ireturn, 1) := by decide +kernel
theorem dX4_fits_35 : decode cX4_fits 35 = .ok (.aload_n 0, 1) := by decide +kernel
theorem dX4_fits_36 : decode cX4_fits 36 = .ok (.invokevirtual 144, 3) := by decide +kernel
theorem dX4_fits_39 : decode cX4_fits 39 = .ok (.iconst 0, 1) := by decide +kernel
theorem dX4_fits_40 : decode cX4_fits 40 = .ok (.istore 4, 2) := by decide +kernel
theorem dX4_fits_42 : decode cX4_fits 42 = .ok (.iconst 0, 1) := by decide +kernel
theorem dX4_fits_43 : decode cX4_fits 43 = .ok (.istore 5, 2) := by decide +kernel
theorem dX4_fits_45 : decode cX4_fits 45 = .ok (.iload 5, 2) := by decide +kernel
theorem dX4_fits_47 : decode cX4_fits 47 = .ok (.bipush 99, 2) := by decide +kernel
theorem dX4_fits_49 : decode cX4_fits 49 = .ok (.if_icmp .gt 36, 3) := by decide +kernel
theorem dX4_fits_52 : decode cX4_fits 52 = .ok (.aload_n 0, 1) := by decide +kernel
theorem dX4_fits_53 : decode cX4_fits 53 = .ok (.iload_n 2, 1) := by decide +kernel
theorem dX4_fits_54 : decode cX4_fits 54 = .ok (.iconst 0, 1) := by decide +kernel
theorem dX4_fits_55 : decode cX4_fits 55 = .ok (.iload 5, 2) := by decide +kernel
theorem dX4_fits_57 : decode cX4_fits 57 = .ok (.invokevirtual 74, 3) := by decide +kernel
theorem dX4_fits_60 : decode cX4_fits 60 = .ok (.iload 4, 2) := by decide +kernel
theorem dX4_fits_62 : decode cX4_fits 62 = .ok (.aload_n 0, 1) := by decide +kernel
theorem dX4_fits_63 : decode cX4_fits 63 = .ok (.iload_n 1, 1) := by decide +kernel
theorem dX4_fits_64 : decode cX4_fits 64 = .ok (.iload_n 2, 1) := by decide +kernel
theorem dX4_fits_65 : decode cX4_fits 65 = .ok (.invokevirtual 177, 3) := by decide +kernel
theorem dX4_fits_68 : decode cX4_fits 68 = .ok (.ifCond .eq 7, 3) := by decide +kernel
theorem dX4_fits_71 : decode cX4_fits 71 = .ok (.iconst 1, 1) := by decide +kernel
theorem dX4_fits_72 : decode cX4_fits 72 = .ok (.goto 4, 3) := by decide +kernel
theorem dX4_fits_75 : decode cX4_fits 75 = .ok (.iconst 0, 1) := by decide +kernel
theorem dX4_fits_76 : decode cX4_fits 76 = .ok (.iadd, 1) := by decide +kernel
theorem dX4_fits_77 : decode cX4_fits 77 = .ok (.istore 4, 2) := by decide +kernel
theorem dX4_fits_79 : decode cX4_fits 79 = .ok (.iinc 5 1, 3) := by decide +kernel
theorem dX4_fits_82 : decode cX4_fits 82 = .ok (.goto (-37), 3) := by decide +kernel
theorem dX4_fits_85 : decode cX4_fits 85 = .ok (.iload 4, 2) := by decide +kernel
theorem dX4_fits_87 : decode cX4_fits 87 = .ok (.ireturn, 1) := by decide +kernel
theorem dX4_kinds_0 : decode cX4_kinds 0 = .ok (.aload_n 0, 1) := by decide +kernel
theorem dX4_kinds_1 : decode cX4_kinds 1 = .ok (.iload_n 1, 1) := by decide +kernel
theorem dX4_kinds_2 : decode cX4_kinds 2 = .ok (.invokevirtual 174, 3) := by decide +kernel
theorem dX4_kinds_5 : decode cX4_kinds 5 = .ok (.istore 4, 2) := by decide +kernel
theorem dX4_kinds_7 : decode cX4_kinds 7 = .ok (.iload 4, 2) := by decide +kernel
theorem dX4_kinds_9 : decode cX4_kinds 9 = .ok (.ifCond .ne 24, 3) := by decide +kernel
theorem dX4_kinds_12 : decode cX4_kinds 12 = .ok (.aload_n 0, 1) := by decide +kernel
theorem dX4_kinds_13 : decode cX4_kinds 13 = .ok (.iload_n 2, 1) := by decide +kernel
theorem dX4_kinds_14 : decode cX4_kinds 14 = .ok (.invokevirtual 80, 3) := by decide +kernel
theorem dX4_kinds_17 : decode cX4_kinds 17 = .ok (.ifCond .eq 11, 3) := by decide +kernel
theorem dX4_kinds_20 : decode cX4_kinds 20 = .ok (.aload_n 0, 1) := by decide +kernel
theorem dX4_kinds_21 : decode cX4_kinds 21 = .ok (.iload_n 3, 1) := by decide +kernel
theorem dX4_kinds_22 : decode cX4_kinds 22 = .ok (.invokevirtual 86, 3) := by decide +kernel
theorem dX4_kinds_25 : decode cX4_kinds 25 = .ok (.ifCond .ne 8, 3) := by decide +kernel
theorem dX4_kinds_28 : decode cX4_kinds 28 = .ok (.ldc 34, 2) := by decide +kernel
theorem dX4_kinds_30 : decode cX4_kinds 30 = .ok (.goto 5, 3) := by decide +kernel
theorem dX4_kinds_33 : decode cX4_kinds 33 = .ok (.iload 4, 2) := by decide +kernel
theorem dX4_kinds_35 : decode cX4_kinds 35 = .ok (.istore 4, 2) := by decide +kernel
theorem dX4_kinds_37 : decode cX4_kinds 37 = .ok (.iload 4, 2) := by decide +kernel
theorem dX4_kinds_39 : decode cX4_kinds 39 = .ok (.ifCond .eq 10, 3) := by decide +kernel
theorem dX4_kinds_42 : decode cX4_kinds 42 = .ok (.aload_n 0, 1) := by decide +kernel
theorem dX4_kinds_43 : decode cX4_kinds 43 = .ok (.iload 4, 2) := by decide +kernel
theorem dX4_kinds_45 : decode cX4_kinds 45 = .ok (.invokevirtual 36, 3) := by decide +kernel
theorem dX4_kinds_48 : decode cX4_kinds 48 = .ok (.ireturn, 1) := by decide +kernel
theorem dX4_kinds_49 : decode cX4_kinds 49 = .ok (.aload_n 0, 1) := by decide +kernel
theorem dX4_kinds_50 : decode cX4_kinds 50 = .ok (.invokevirtual 144, 3) := by decide +kernel
theorem dX4_kinds_53 : decode cX4_kinds 53 = .ok (.iconst 0, 1) := by decide +kernel
theorem dX4_kinds_54 : decode cX4_kinds 54 = .ok (.istore 5, 2) := by decide +kernel
theorem dX4_kinds_56 : decode cX4_kinds 56 = .ok (.iconst 0, 1) := by decide +kernel
theorem dX4_kinds_57 : decode cX4_kinds 57 = .ok (.istore 6, 2) := by decide +kernel
theorem dX4_kinds_59 : decode cX4_kinds 59 = .ok (.iload 6, 2) := by decide +kernel
theorem dX4_kinds_61 : decode cX4_kinds 61 = .ok (.bipush 6, 2) := by decide +kernel
theorem dX4_kinds_63 : decode cX4_kinds 63 = .ok (.if_icmp .gt 39, 3) := by decide +kernel
theorem dX4_kinds_66 : decode cX4_kinds 66 = .ok (.aload_n 0, 1) := by decide +kernel
theorem dX4_kinds_67 : decode cX4_kinds 67 = .ok (.iload_n 2, 1) := by decide +kernel
theorem dX4_kinds_68 : decode cX4_kinds 68 = .ok (.iconst 0, 1) := by decide +kernel
theorem dX4_kinds_69 : decode cX4_kinds 69 = .ok (.iload 6, 2) := by decide +kernel
theorem dX4_kinds_71 : decode cX4_kinds 71 = .ok (.invokevirtual 62, 3) := by decide +kernel
theorem dX4_kinds_74 : decode cX4_kinds 74 = .ok (.iload 5, 2) := by decide +kernel
theorem dX4_kinds_76 : decode cX4_kinds 76 = .ok (.aload_n 0, 1) := by decide +kernel
theorem dX4_kinds_77 : decode cX4_kinds 77 = .ok (.iload_n 1, 1) := by decide +kernel
theorem dX4_kinds_78 : decode cX4_kinds 78 = .ok (.iload_n 3, 1) := by decide +kernel
theorem dX4_kinds_79 : decode cX4_kinds 79 = .ok (.invokevirtual 177, 3) := by decide +kernel
theorem dX4_kinds_82 : decode cX4_kinds 82 = .ok (.ifCond .eq 10, 3) := by decide +kernel
theorem dX4_kinds_85 : decode cX4_kinds 85 = .ok (.iconst 1, 1) := by decide +kernel
theorem dX4_kinds_86 : decode cX4_kinds 86 = .ok (.iload 6, 2) := by decide +kernel
theorem dX4_kinds_88 : decode cX4_kinds 88 = .ok (.ishl, 1) := by decide +kernel
theorem dX4_kinds_89 : decode cX4_kinds 89 = .ok (.goto 4, 3) := by decide +kernel
theorem dX4_kinds_92 : decode cX4_kinds 92 = .ok (.iconst 0, 1) := by decide +kernel
theorem dX4_kinds_93 : decode cX4_kinds 93 = .ok (.ior, 1) := by decide +kernel
theorem dX4_kinds_94 : decode cX4_kinds 94 = .ok (.istore 5, 2) := by decide +kernel
theorem dX4_kinds_96 : decode cX4_kinds 96 = .ok (.iinc 6 1, 3) := by decide +kernel
theorem dX4_kinds_99 : decode cX4_kinds 99 = .ok (.goto (-40), 3) := by decide +kernel
theorem dX4_kinds_102 : decode cX4_kinds 102 = .ok (.iload 5, 2) := by decide +kernel
theorem dX4_kinds_104 : decode cX4_kinds 104 = .ok (.ireturn, 1) := by decide +kernel
theorem dX4_draw_0 : decode cX4_draw 0 = .ok (.aload_n 0, 1) := by decide +kernel
theorem dX4_draw_1 : decode cX4_draw 1 = .ok (.getfield 9, 3) := by decide +kernel
theorem dX4_draw_4 : decode cX4_draw 4 = .ok (.iconst 1, 1) := by decide +kernel
theorem dX4_draw_5 : decode cX4_draw 5 = .ok (.aload_n 0, 1) := by decide +kernel
theorem dX4_draw_6 : decode cX4_draw 6 = .ok (.getfield 9, 3) := by decide +kernel
theorem dX4_draw_9 : decode cX4_draw 9 = .ok (.iconst 1, 1) := by decide +kernel
theorem dX4_draw_10 : decode cX4_draw 10 = .ok (.iaload, 1) := by decide +kernel
theorem dX4_draw_11 : decode cX4_draw 11 = .ok (.ldc 180, 2) := by decide +kernel
theorem dX4_draw_13 : decode cX4_draw 13 = .ok (.imul, 1) := by decide +kernel
theorem dX4_draw_14 : decode cX4_draw 14 = .ok (.sipush 12345, 3) := by decide +kernel
theorem dX4_draw_17 : decode cX4_draw 17 = .ok (.iadd, 1) := by decide +kernel
theorem dX4_draw_18 : decode cX4_draw 18 = .ok (.iastore, 1) := by decide +kernel
theorem dX4_draw_19 : decode cX4_draw 19 = .ok (.aload_n 0, 1) := by decide +kernel
theorem dX4_draw_20 : decode cX4_draw 20 = .ok (.getfield 9, 3) := by decide +kernel
theorem dX4_draw_23 : decode cX4_draw 23 = .ok (.iconst 1, 1) := by decide +kernel
theorem dX4_draw_24 : decode cX4_draw 24 = .ok (.iaload, 1) := by decide +kernel
theorem dX4_draw_25 : decode cX4_draw 25 = .ok (.bipush 8, 2) := by decide +kernel
theorem dX4_draw_27 : decode cX4_draw 27 = .ok (.iushr, 1) := by decide +kernel
theorem dX4_draw_28 : decode cX4_draw 28 = .ok (.ireturn, 1) := by decide +kernel
theorem dX4_coach_0 : decode cX4_coach 0 = .ok (.iload_n 1, 1) := by decide +kernel
theorem dX4_coach_1 : decode cX4_coach 1 = .ok (.iconst 1, 1) := by decide +kernel
theorem dX4_coach_2 : decode cX4_coach 2 = .ok (.bipush 20, 2) := by decide +kernel
theorem dX4_coach_4 : decode cX4_coach 4 = .ok (.invokestatic 40, 3) := by decide +kernel
theorem dX4_coach_7 : decode cX4_coach 7 = .ok (.ifCond .ne 10, 3) := by decide +kernel
theorem dX4_coach_10 : decode cX4_coach 10 = .ok (.aload_n 0, 1) := by decide +kernel
theorem dX4_coach_11 : decode cX4_coach 11 = .ok (.ldc 34, 2) := by decide +kernel
theorem dX4_coach_13 : decode cX4_coach 13 = .ok (.invokevirtual 36, 3) := by decide +kernel
theorem dX4_coach_16 : decode cX4_coach 16 = .ok (.ireturn, 1) := by decide +kernel
theorem dX4_coach_17 : decode cX4_coach 17 = .ok (.aload_n 0, 1) := by decide +kernel
theorem dX4_coach_18 : decode cX4_coach 18 = .ok (.getfield 9, 3) := by decide +kernel
theorem dX4_coach_21 : decode cX4_coach 21 = .ok (.iconst 0, 1) := by decide +kernel
theorem dX4_coach_22 : decode cX4_coach 22 = .ok (.iaload, 1) := by decide +kernel
theorem dX4_coach_23 : decode cX4_coach 23 = .ok (.iload_n 1, 1) := by decide +kernel
theorem dX4_coach_24 : decode cX4_coach 24 = .ok (.iadd, 1) := by decide +kernel
theorem dX4_coach_25 : decode cX4_coach 25 = .ok (.ldc 89, 2) := by decide +kernel
theorem dX4_coach_27 : decode cX4_coach 27 = .ok (.if_icmp .le 10, 3) := by decide +kernel
theorem dX4_coach_30 : decode cX4_coach 30 = .ok (.aload_n 0, 1) := by decide +kernel
theorem dX4_coach_31 : decode cX4_coach 31 = .ok (.ldc 107, 2) := by decide +kernel
theorem dX4_coach_33 : decode cX4_coach 33 = .ok (.invokevirtual 36, 3) := by decide +kernel
theorem dX4_coach_36 : decode cX4_coach 36 = .ok (.ireturn, 1) := by decide +kernel
theorem dX4_coach_37 : decode cX4_coach 37 = .ok (.iconst 0, 1) := by decide +kernel
theorem dX4_coach_38 : decode cX4_coach 38 = .ok (.istore_n 2, 1) := by decide +kernel
theorem dX4_coach_39 : decode cX4_coach 39 = .ok (.iload_n 2, 1) := by decide +kernel
theorem dX4_coach_40 : decode cX4_coach 40 = .ok (.iload_n 1, 1) := by decide +kernel
theorem dX4_coach_41 : decode cX4_coach 41 = .ok (.if_icmp .ge 49, 3) := by decide +kernel
theorem dX4_coach_44 : decode cX4_coach 44 = .ok (.aload_n 0, 1) := by decide +kernel
theorem dX4_coach_45 : decode cX4_coach 45 = .ok (.invokevirtual 181, 3) := by decide +kernel
theorem dX4_coach_48 : decode cX4_coach 48 = .ok (.bipush 6, 2) := by decide +kernel
theorem dX4_coach_50 : decode cX4_coach 50 = .ok (.irem, 1) := by decide +kernel
theorem dX4_coach_51 : decode cX4_coach 51 = .ok (.istore_n 3, 1) := by decide +kernel
theorem dX4_coach_52 : decode cX4_coach 52 = .ok (.aload_n 0, 1) := by decide +kernel
theorem dX4_coach_53 : decode cX4_coach 53 = .ok (.getfield 9, 3) := by decide +kernel
theorem dX4_coach_56 : decode cX4_coach 56 = .ok (.iconst 4, 1) := by decide +kernel
theorem dX4_coach_57 : decode cX4_coach 57 = .ok (.aload_n 0, 1) := by decide +kernel
theorem dX4_coach_58 : decode cX4_coach 58 = .ok (.getfield 9, 3) := by decide +kernel
theorem dX4_coach_61 : decode cX4_coach 61 = .ok (.iconst 0, 1) := by decide +kernel
theorem dX4_coach_62 : decode cX4_coach 62 = .ok (.iaload, 1) := by decide +kernel
theorem dX4_coach_63 : decode cX4_coach 63 = .ok (.bipush 6, 2) := by decide +kernel
theorem dX4_coach_65 : decode cX4_coach 65 = .ok (.irem, 1) := by decide +kernel
theorem dX4_coach_66 : decode cX4_coach 66 = .ok (.iadd, 1) := by decide +kernel
theorem dX4_coach_67 : decode cX4_coach 67 = .ok (.bipush 10, 2) := by decide +kernel
theorem dX4_coach_69 : decode cX4_coach 69 = .ok (.iload_n 3, 1) := by decide +kernel
theorem dX4_coach_70 : decode cX4_coach 70 = .ok (.imul, 1) := by decide +kernel
theorem dX4_coach_71 : decode cX4_coach 71 = .ok (.aload_n 0, 1) := by decide +kernel
theorem dX4_coach_72 : decode cX4_coach 72 = .ok (.invokevirtual 181, 3) := by decide +kernel
theorem dX4_coach_75 : decode cX4_coach 75 = .ok (.bipush 8, 2) := by decide +kernel
theorem dX4_coach_77 : decode cX4_coach 77 = .ok (.irem, 1) := by decide +kernel
theorem dX4_coach_78 : decode cX4_coach 78 = .ok (.iadd, 1) := by decide +kernel
theorem dX4_coach_79 : decode cX4_coach 79 = .ok (.iastore, 1) := by decide +kernel
theorem dX4_coach_80 : decode cX4_coach 80 = .ok (.aload_n 0, 1) := by decide +kernel
theorem dX4_coach_81 : decode cX4_coach 81 = .ok (.invokevirtual 111, 3) := by decide +kernel
theorem dX4_coach_84 : decode cX4_coach 84 = .ok (.iinc 2 1, 3) := by decide +kernel
theorem dX4_coach_87 : decode cX4_coach 87 = .ok (.goto (-48), 3) := by decide +kernel
theorem dX4_coach_90 : decode cX4_coach 90 = .ok (.aload_n 0, 1) := by decide +kernel
theorem dX4_coach_91 : decode cX4_coach 91 = .ok (.invokevirtual 118, 3) := by decide +kernel
theorem dX4_coach_94 : decode cX4_coach 94 = .ok (.ireturn, 1) := by decide +kernel
theorem dX4_odds_0 : decode cX4_odds 0 = .ok (.aload_n 0, 1) := by decide +kernel
theorem dX4_odds_1 : decode cX4_odds 1 = .ok (.iload_n 1, 1) := by decide +kernel
theorem dX4_odds_2 : decode cX4_odds 2 = .ok (.invokevirtual 86, 3) := by decide +kernel
theorem dX4_odds_5 : decode cX4_odds 5 = .ok (.ifCond .eq 31, 3) := by decide +kernel
theorem dX4_odds_8 : decode cX4_odds 8 = .ok (.aload_n 0, 1) := by decide +kernel
theorem dX4_odds_9 : decode cX4_odds 9 = .ok (.iload_n 2, 1) := by decide +kernel
theorem dX4_odds_10 : decode cX4_odds 10 = .ok (.invokevirtual 80, 3) := by decide +kernel
theorem dX4_odds_13 : decode cX4_odds 13 = .ok (.ifCond .eq 23, 3) := by decide +kernel
theorem dX4_odds_16 : decode cX4_odds 16 = .ok (.iload_n 3, 1) := by decide +kernel
theorem dX4_odds_17 : decode cX4_odds 17 = .ok (.iconst 0, 1) := by decide +kernel
theorem dX4_odds_18 : decode cX4_odds 18 = .ok (.bipush 9, 2) := by decide +kernel
theorem dX4_odds_20 : decode cX4_odds 20 = .ok (.invokestatic 40, 3) := by decide +kernel
theorem dX4_odds_23 : decode cX4_odds 23 = .ok (.ifCond .eq 13, 3) := by decide +kernel
theorem dX4_odds_26 : decode cX4_odds 26 = .ok (.iload 4, 2) := by decide +kernel
theorem dX4_odds_28 : decode cX4_odds 28 = .ok (.iconst 0, 1) := by decide +kernel
theorem dX4_odds_29 : decode cX4_odds 29 = .ok (.iconst 1, 1) := by decide +kernel
theorem dX4_odds_30 : decode cX4_odds 30 = .ok (.invokestatic 40, 3) := by decide +kernel
theorem dX4_odds_33 : decode cX4_odds 33 = .ok (.ifCond .ne 11, 3) := by decide +kernel
theorem dX4_odds_36 : decode cX4_odds 36 = .ok (.aload_n 0, 1) := by decide +kernel
theorem dX4_odds_37 : decode cX4_odds 37 = .ok (.ldc 34, 2) := by decide +kernel
theorem dX4_odds_39 : decode cX4_odds 39 = .ok (.invokevirtual 36, 3) := by decide +kernel
theorem dX4_odds_42 : decode cX4_odds 42 = .ok (.i2l, 1) := by decide +kernel
theorem dX4_odds_43 : decode cX4_odds 43 = .ok (.lreturn, 1) := by decide +kernel
theorem dX4_odds_44 : decode cX4_odds 44 = .ok (.aload_n 0, 1) := by decide +kernel
theorem dX4_odds_45 : decode cX4_odds 45 = .ok (.iload_n 1, 1) := by decide +kernel
theorem dX4_odds_46 : decode cX4_odds 46 = .ok (.iconst 0, 1) := by decide +kernel
theorem dX4_odds_47 : decode cX4_odds 47 = .ok (.invokevirtual 44, 3) := by decide +kernel
theorem dX4_odds_50 : decode cX4_odds 50 = .ok (.istore 5, 2) := by decide +kernel
theorem dX4_odds_52 : decode cX4_odds 52 = .ok (.iconst 0, 1) := by decide +kernel
theorem dX4_odds_53 : decode cX4_odds 53 = .ok (.istore 6, 2) := by decide +kernel
theorem dX4_odds_55 : decode cX4_odds 55 = .ok (.iconst 0, 1) := by decide +kernel
theorem dX4_odds_56 : decode cX4_odds 56 = .ok (.istore 7, 2) := by decide +kernel
theorem dX4_odds_58 : decode cX4_odds 58 = .ok (.iload 7, 2) := by decide +kernel
theorem dX4_odds_60 : decode cX4_odds 60 = .ok (.bipush 99, 2) := by decide +kernel
theorem dX4_odds_62 : decode cX4_odds 62 = .ok (.if_icmp .gt 36, 3) := by decide +kernel
theorem dX4_odds_65 : decode cX4_odds 65 = .ok (.aload_n 0, 1) := by decide +kernel
theorem dX4_odds_66 : decode cX4_odds 66 = .ok (.iload_n 1, 1) := by decide +kernel
theorem dX4_odds_67 : decode cX4_odds 67 = .ok (.iconst 0, 1) := by decide +kernel
theorem dX4_odds_68 : decode cX4_odds 68 = .ok (.iload 7, 2) := by decide +kernel
theorem dX4_odds_70 : decode cX4_odds 70 = .ok (.invokevirtual 74, 3) := by decide +kernel
theorem dX4_odds_73 : decode cX4_odds 73 = .ok (.iload 6, 2) := by decide +kernel
theorem dX4_odds_75 : decode cX4_odds 75 = .ok (.aload_n 0, 1) := by decide +kernel
theorem dX4_odds_76 : decode cX4_odds 76 = .ok (.iload_n 1, 1) := by decide +kernel
theorem dX4_odds_77 : decode cX4_odds 77 = .ok (.iload_n 2, 1) := by decide +kernel
theorem dX4_odds_78 : decode cX4_odds 78 = .ok (.invokevirtual 93, 3) := by decide +kernel
theorem dX4_odds_81 : decode cX4_odds 81 = .ok (.ifCond .eq 7, 3) := by decide +kernel
theorem dX4_odds_84 : decode cX4_odds 84 = .ok (.iconst 1, 1) := by decide +kernel
theorem dX4_odds_85 : decode cX4_odds 85 = .ok (.goto 4, 3) := by decide +kernel
theorem dX4_odds_88 : decode cX4_odds 88 = .ok (.iconst 0, 1) := by decide +kernel
theorem dX4_odds_89 : decode cX4_odds 89 = .ok (.iadd, 1) := by decide +kernel
theorem dX4_odds_90 : decode cX4_odds 90 = .ok (.istore 6, 2) := by decide +kernel
theorem dX4_odds_92 : decode cX4_odds 92 = .ok (.iinc 7 1, 3) := by decide +kernel
theorem dX4_odds_95 : decode cX4_odds 95 = .ok (.goto (-37), 3) := by decide +kernel
theorem dX4_odds_98 : decode cX4_odds 98 = .ok (.aload_n 0, 1) := by decide +kernel
theorem dX4_odds_99 : decode cX4_odds 99 = .ok (.iload_n 1, 1) := by decide +kernel
theorem dX4_odds_100 : decode cX4_odds 100 = .ok (.iconst 0, 1) := by decide +kernel
theorem dX4_odds_101 : decode cX4_odds 101 = .ok (.iload 5, 2) := by decide +kernel
theorem dX4_odds_103 : decode cX4_odds 103 = .ok (.invokevirtual 74, 3) := by decide +kernel
theorem dX4_odds_106 : decode cX4_odds 106 = .ok (.bipush 100, 2) := by decide +kernel
theorem dX4_odds_108 : decode cX4_odds 108 = .ok (.istore 7, 2) := by decide +kernel
theorem dX4_odds_110 : decode cX4_odds 110 = .ok (.bipush 100, 2) := by decide +kernel
theorem dX4_odds_112 : decode cX4_odds 112 = .ok (.istore 8, 2) := by decide +kernel
theorem dX4_odds_114 : decode cX4_odds 114 = .ok (.iload 8, 2) := by decide +kernel
theorem dX4_odds_116 : decode cX4_odds 116 = .ok (.iconst 1, 1) := by decide +kernel
theorem dX4_odds_117 : decode cX4_odds 117 = .ok (.if_icmp .le 39, 3) := by decide +kernel
theorem dX4_odds_120 : decode cX4_odds 120 = .ok (.iload 6, 2) := by decide +kernel
theorem dX4_odds_122 : decode cX4_odds 122 = .ok (.iload 8, 2) := by decide +kernel
theorem dX4_odds_124 : decode cX4_odds 124 = .ok (.irem, 1) := by decide +kernel
theorem dX4_odds_125 : decode cX4_odds 125 = .ok (.ifCond .ne 25, 3) := by decide +kernel
theorem dX4_odds_128 : decode cX4_odds 128 = .ok (.iload 7, 2) := by decide +kernel
theorem dX4_odds_130 : decode cX4_odds 130 = .ok (.iload 8, 2) := by decide +kernel
theorem dX4_odds_132 : decode cX4_odds 132 = .ok (.irem, 1) := by decide +kernel
theorem dX4_odds_133 : decode cX4_odds 133 = .ok (.ifCond .ne 17, 3) := by decide +kernel
theorem dX4_odds_136 : decode cX4_odds 136 = .ok (.iload 6, 2) := by decide +kernel
theorem dX4_odds_138 : decode cX4_odds 138 = .ok (.iload 8, 2) := by decide +kernel
theorem dX4_odds_140 : decode cX4_odds 140 = .ok (.idiv, 1) := by decide +kernel
theorem dX4_odds_141 : decode cX4_odds 141 = .ok (.istore 6, 2) := by decide +kernel
theorem dX4_odds_143 : decode cX4_odds 143 = .ok (.iload 7, 2) := by decide +kernel
theorem dX4_odds_145 : decode cX4_odds 145 = .ok (.iload 8, 2) := by decide +kernel
theorem dX4_odds_147 : decode cX4_odds 147 = .ok (.idiv, 1) := by decide +kernel
theorem dX4_odds_148 : decode cX4_odds 148 = .ok (.istore 7, 2) := by decide +kernel
theorem dX4_odds_150 : decode cX4_odds 150 = .ok (.iinc 8 (-1), 3) := by decide +kernel
theorem dX4_odds_153 : decode cX4_odds 153 = .ok (.goto (-39), 3) := by decide +kernel
theorem dX4_odds_156 : decode cX4_odds 156 = .ok (.lconst 1, 1) := by decide +kernel
theorem dX4_odds_157 : decode cX4_odds 157 = .ok (.lstore 8, 2) := by decide +kernel
theorem dX4_odds_159 : decode cX4_odds 159 = .ok (.iconst 0, 1) := by decide +kernel
theorem dX4_odds_160 : decode cX4_odds 160 = .ok (.istore 10, 2) := by decide +kernel
theorem dX4_odds_162 : decode cX4_odds 162 = .ok (.iload 10, 2) := by decide +kernel
theorem dX4_odds_164 : decode cX4_odds 164 = .ok (.iload_n 3, 1) := by decide +kernel
theorem dX4_odds_165 : decode cX4_odds 165 = .ok (.if_icmp .ge 28, 3) := by decide +kernel
theorem dX4_odds_168 : decode cX4_odds 168 = .ok (.lload 8, 2) := by decide +kernel
theorem dX4_odds_170 : decode cX4_odds 170 = .ok (.iload 4, 2) := by decide +kernel
theorem dX4_odds_172 : decode cX4_odds 172 = .ok (.ifCond .ne 9, 3) := by decide +kernel
theorem dX4_odds_175 : decode cX4_odds 175 = .ok (.iload 6, 2) := by decide +kernel
theorem dX4_odds_177 : decode cX4_odds 177 = .ok (.i2l, 1) := by decide +kernel
theorem dX4_odds_178 : decode cX4_odds 178 = .ok (.goto 6, 3) := by decide +kernel
theorem dX4_odds_181 : decode cX4_odds 181 = .ok (.iload 7, 2) := by decide +kernel
theorem dX4_odds_183 : decode cX4_odds 183 = .ok (.i2l, 1) := by decide +kernel
theorem dX4_odds_184 : decode cX4_odds 184 = .ok (.lmul, 1) := by decide +kernel
theorem dX4_odds_185 : decode cX4_odds 185 = .ok (.lstore 8, 2) := by decide +kernel
theorem dX4_odds_187 : decode cX4_odds 187 = .ok (.iinc 10 1, 3) := by decide +kernel
theorem dX4_odds_190 : decode cX4_odds 190 = .ok (.goto (-28), 3) := by decide +kernel
theorem dX4_odds_193 : decode cX4_odds 193 = .ok (.lload 8, 2) := by decide +kernel
theorem dX4_odds_195 : decode cX4_odds 195 = .ok (.lreturn, 1) := by decide +kernel
theorem dX4_seed_0 : decode cX4_seed 0 = .ok (.aload_n 0, 1) := by decide +kernel
theorem dX4_seed_1 : decode cX4_seed 1 = .ok (.iconst 1, 1) := by decide +kernel
theorem dX4_seed_2 : decode cX4_seed 2 = .ok (.iload_n 1, 1) := by decide +kernel
theorem dX4_seed_3 : decode cX4_seed 3 = .ok (.invokevirtual 59, 3) := by decide +kernel
theorem dX4_seed_6 : decode cX4_seed 6 = .ok (.ireturn, 1) := by decide +kernel
theorem dX4_feed_0 : decode cX4_feed 0 = .ok (.iload_n 2, 1) := by decide +kernel
theorem dX4_feed_1 : decode cX4_feed 1 = .ok (.iconst 1, 1) := by decide +kernel
theorem dX4_feed_2 : decode cX4_feed 2 = .ok (.iconst 4, 1) := by decide +kernel
theorem dX4_feed_3 : decode cX4_feed 3 = .ok (.invokestatic 40, 3) := by decide +kernel
theorem dX4_feed_6 : decode cX4_feed 6 = .ok (.ifCond .ne 10, 3) := by decide +kernel
theorem dX4_feed_9 : decode cX4_feed 9 = .ok (.aload_n 0, 1) := by decide +kernel
theorem dX4_feed_10 : decode cX4_feed 10 = .ok (.ldc 34, 2) := by decide +kernel
theorem dX4_feed_12 : decode cX4_feed 12 = .ok (.invokevirtual 36, 3) := by decide +kernel
theorem dX4_feed_15 : decode cX4_feed 15 = .ok (.ireturn, 1) := by decide +kernel
theorem dX4_feed_16 : decode cX4_feed 16 = .ok (.aload_n 0, 1) := by decide +kernel
theorem dX4_feed_17 : decode cX4_feed 17 = .ok (.getfield 184, 3) := by decide +kernel
theorem dX4_feed_20 : decode cX4_feed 20 = .ok (.iload_n 2, 1) := by decide +kernel
theorem dX4_feed_21 : decode cX4_feed 21 = .ok (.iadd, 1) := by decide +kernel
theorem dX4_feed_22 : decode cX4_feed 22 = .ok (.bipush 120, 2) := by decide +kernel
theorem dX4_feed_24 : decode cX4_feed 24 = .ok (.if_icmp .le 10, 3) := by decide +kernel
theorem dX4_feed_27 : decode cX4_feed 27 = .ok (.aload_n 0, 1) := by decide +kernel
theorem dX4_feed_28 : decode cX4_feed 28 = .ok (.ldc 69, 2) := by decide +kernel
theorem dX4_feed_30 : decode cX4_feed 30 = .ok (.invokevirtual 36, 3) := by decide +kernel
theorem dX4_feed_33 : decode cX4_feed 33 = .ok (.ireturn, 1) := by decide +kernel
theorem dX4_feed_34 : decode cX4_feed 34 = .ok (.iload_n 2, 1) := by decide +kernel
theorem dX4_feed_35 : decode cX4_feed 35 = .ok (.iconst 1, 1) := by decide +kernel
theorem dX4_feed_36 : decode cX4_feed 36 = .ok (.isub, 1) := by decide +kernel
theorem dX4_feed_37 : decode cX4_feed 37 = .ok (.istore_n 3, 1) := by decide +kernel
theorem dX4_feed_38 : decode cX4_feed 38 = .ok (.iload_n 3, 1) := by decide +kernel
theorem dX4_feed_39 : decode cX4_feed 39 = .ok (.ifCond .lt 38, 3) := by decide +kernel
theorem dX4_feed_42 : decode cX4_feed 42 = .ok (.aload_n 0, 1) := by decide +kernel
theorem dX4_feed_43 : decode cX4_feed 43 = .ok (.getfield 31, 3) := by decide +kernel
theorem dX4_feed_46 : decode cX4_feed 46 = .ok (.aload_n 0, 1) := by decide +kernel
theorem dX4_feed_47 : decode cX4_feed 47 = .ok (.getfield 184, 3) := by decide +kernel
theorem dX4_feed_50 : decode cX4_feed 50 = .ok (.iload_n 1, 1) := by decide +kernel
theorem dX4_feed_51 : decode cX4_feed 51 = .ok (.bipush 8, 2) := by decide +kernel
theorem dX4_feed_53 : decode cX4_feed 53 = .ok (.iload_n 3, 1) := by decide +kernel
theorem dX4_feed_54 : decode cX4_feed 54 = .ok (.imul, 1) := by decide +kernel
theorem dX4_feed_55 : decode cX4_feed 55 = .ok (.ishr, 1) := by decide +kernel
theorem dX4_feed_56 : decode cX4_feed 56 = .ok (.sipush 255, 3) := by decide +kernel
theorem dX4_feed_59 : decode cX4_feed 59 = .ok (.iand, 1) := by decide +kernel
theorem dX4_feed_60 : decode cX4_feed 60 = .ok (.iastore, 1) := by decide +kernel
theorem dX4_feed_61 : decode cX4_feed 61 = .ok (.aload_n 0, 1) := by decide +kernel
theorem dX4_feed_62 : decode cX4_feed 62 = .ok (.dup, 1) := by decide +kernel
theorem dX4_feed_63 : decode cX4_feed 63 = .ok (.getfield 184, 3) := by decide +kernel
theorem dX4_feed_66 : decode cX4_feed 66 = .ok (.iconst 1, 1) := by decide +kernel
theorem dX4_feed_67 : decode cX4_feed 67 = .ok (.iadd, 1) := by decide +kernel
theorem dX4_feed_68 : decode cX4_feed 68 = .ok (.putfield 184, 3) := by decide +kernel
theorem dX4_feed_71 : decode cX4_feed 71 = .ok (.iinc 3 (-1), 3) := by decide +kernel
theorem dX4_feed_74 : decode cX4_feed 74 = .ok (.goto (-36), 3) := by decide +kernel
theorem dX4_feed_77 : decode cX4_feed 77 = .ok (.aload_n 0, 1) := by decide +kernel
theorem dX4_feed_78 : decode cX4_feed 78 = .ok (.getfield 184, 3) := by decide +kernel
theorem dX4_feed_81 : decode cX4_feed 81 = .ok (.ireturn, 1) := by decide +kernel
theorem dX4_wipe_0 : decode cX4_wipe 0 = .ok (.aload_n 0, 1) := by decide +kernel
theorem dX4_wipe_1 : decode cX4_wipe 1 = .ok (.getfield 184, 3) := by decide +kernel
theorem dX4_wipe_4 : decode cX4_wipe 4 = .ok (.istore_n 1, 1) := by decide +kernel
theorem dX4_wipe_5 : decode cX4_wipe 5 = .ok (.aload_n 0, 1) := by decide +kernel
theorem dX4_wipe_6 : decode cX4_wipe 6 = .ok (.iconst 0, 1) := by decide +kernel
theorem dX4_wipe_7 : decode cX4_wipe 7 = .ok (.putfield 184, 3) := by decide +kernel
theorem dX4_wipe_10 : decode cX4_wipe 10 = .ok (.iload_n 1, 1) := by decide +kernel
theorem dX4_wipe_11 : decode cX4_wipe 11 = .ok (.ireturn, 1) := by decide +kernel
theorem dX4_isByte_0 : decode cX4_isByte 0 = .ok (.iload_n 1, 1) := by decide +kernel
theorem dX4_isByte_1 : decode cX4_isByte 1 = .ok (.aload_n 0, 1) := by decide +kernel
theorem dX4_isByte_2 : decode cX4_isByte 2 = .ok (.getfield 184, 3) := by decide +kernel
theorem dX4_isByte_5 : decode cX4_isByte 5 = .ok (.if_icmp .ge 21, 3) := by decide +kernel
theorem dX4_isByte_8 : decode cX4_isByte 8 = .ok (.aload_n 0, 1) := by decide +kernel
theorem dX4_isByte_9 : decode cX4_isByte 9 = .ok (.getfield 31, 3) := by decide +kernel
theorem dX4_isByte_12 : decode cX4_isByte 12 = .ok (.iload_n 1, 1) := by decide +kernel
theorem dX4_isByte_13 : decode cX4_isByte 13 = .ok (.iaload, 1) := by decide +kernel
theorem dX4_isByte_14 : decode cX4_isByte 14 = .ok (.iload_n 2, 1) := by decide +kernel
theorem dX4_isByte_15 : decode cX4_isByte 15 = .ok (.iload_n 3, 1) := by decide +kernel
theorem dX4_isByte_16 : decode cX4_isByte 16 = .ok (.invokestatic 40, 3) := by decide +kernel
theorem dX4_isByte_19 : decode cX4_isByte 19 = .ok (.ifCond .eq 7, 3) := by decide +kernel
theorem dX4_isByte_22 : decode cX4_isByte 22 = .ok (.iconst 1, 1) := by decide +kernel
theorem dX4_isByte_23 : decode cX4_isByte 23 = .ok (.goto 4, 3) := by decide +kernel
theorem dX4_isByte_26 : decode cX4_isByte 26 = .ok (.iconst 0, 1) := by decide +kernel
theorem dX4_isByte_27 : decode cX4_isByte 27 = .ok (.ireturn, 1) := by decide +kernel
theorem dX4_isName_0 : decode cX4_isName 0 = .ok (.iload_n 2, 1) := by decide +kernel
theorem dX4_isName_1 : decode cX4_isName 1 = .ok (.bipush 7, 2) := by decide +kernel
theorem dX4_isName_3 : decode cX4_isName 3 = .ok (.if_icmp .gt 26, 3) := by decide +kernel
theorem dX4_isName_6 : decode cX4_isName 6 = .ok (.iload_n 2, 1) := by decide +kernel
theorem dX4_isName_7 : decode cX4_isName 7 = .ok (.bipush 7, 2) := by decide +kernel
theorem dX4_isName_9 : decode cX4_isName 9 = .ok (.if_icmp .eq 16, 3) := by decide +kernel
theorem dX4_isName_12 : decode cX4_isName 12 = .ok (.getstatic 188, 3) := by decide +kernel
theorem dX4_isName_15 : decode cX4_isName 15 = .ok (.bipush 7, 2) := by decide +kernel
theorem dX4_isName_17 : decode cX4_isName 17 = .ok (.iload_n 1, 1) := by decide +kernel
theorem dX4_isName_18 : decode cX4_isName 18 = .ok (.imul, 1) := by decide +kernel
theorem dX4_isName_19 : decode cX4_isName 19 = .ok (.iload_n 2, 1) := by decide +kernel
theorem dX4_isName_20 : decode cX4_isName 20 = .ok (.iadd, 1) := by decide +kernel
theorem dX4_isName_21 : decode cX4_isName 21 = .ok (.iaload, 1) := by decide +kernel
theorem dX4_isName_22 : decode cX4_isName 22 = .ok (.ifCond .ne 7, 3) := by decide +kernel
theorem dX4_isName_25 : decode cX4_isName 25 = .ok (.iconst 1, 1) := by decide +kernel
theorem dX4_isName_26 : decode cX4_isName 26 = .ok (.goto 4, 3) := by decide +kernel
theorem dX4_isName_29 : decode cX4_isName 29 = .ok (.iconst 0, 1) := by decide +kernel
theorem dX4_isName_30 : decode cX4_isName 30 = .ok (.istore_n 3, 1) := by decide +kernel
theorem dX4_isName_31 : decode cX4_isName 31 = .ok (.iconst 0, 1) := by decide +kernel
theorem dX4_isName_32 : decode cX4_isName 32 = .ok (.istore 4, 2) := by decide +kernel
theorem dX4_isName_34 : decode cX4_isName 34 = .ok (.iload 4, 2) := by decide +kernel
theorem dX4_isName_36 : decode cX4_isName 36 = .ok (.iload_n 2, 1) := by decide +kernel
theorem dX4_isName_37 : decode cX4_isName 37 = .ok (.if_icmp .ge 45, 3) := by decide +kernel
theorem dX4_isName_40 : decode cX4_isName 40 = .ok (.iload_n 3, 1) := by decide +kernel
theorem dX4_isName_41 : decode cX4_isName 41 = .ok (.ifCond .eq 41, 3) := by decide +kernel
theorem dX4_isName_44 : decode cX4_isName 44 = .ok (.getstatic 188, 3) := by decide +kernel
theorem dX4_isName_47 : decode cX4_isName 47 = .ok (.bipush 7, 2) := by decide +kernel
theorem dX4_isName_49 : decode cX4_isName 49 = .ok (.iload_n 1, 1) := by decide +kernel
theorem dX4_isName_50 : decode cX4_isName 50 = .ok (.imul, 1) := by decide +kernel
theorem dX4_isName_51 : decode cX4_isName 51 = .ok (.iload 4, 2) := by decide +kernel
theorem dX4_isName_53 : decode cX4_isName 53 = .ok (.iadd, 1) := by decide +kernel
theorem dX4_isName_54 : decode cX4_isName 54 = .ok (.iaload, 1) := by decide +kernel
theorem dX4_isName_55 : decode cX4_isName 55 = .ok (.aload_n 0, 1) := by decide +kernel
theorem dX4_isName_56 : decode cX4_isName 56 = .ok (.getfield 31, 3) := by decide +kernel
theorem dX4_isName_59 : decode cX4_isName 59 = .ok (.aload_n 0, 1) := by decide +kernel
theorem dX4_isName_60 : decode cX4_isName 60 = .ok (.getfield 191, 3) := by decide +kernel
theorem dX4_isName_63 : decode cX4_isName 63 = .ok (.iload 4, 2) := by decide +kernel
theorem dX4_isName_65 : decode cX4_isName 65 = .ok (.iadd, 1) := by decide +kernel
theorem dX4_isName_66 : decode cX4_isName 66 = .ok (.iaload, 1) := by decide +kernel
theorem dX4_isName_67 : decode cX4_isName 67 = .ok (.if_icmp .ne 7, 3) := by decide +kernel
theorem dX4_isName_70 : decode cX4_isName 70 = .ok (.iconst 1, 1) := by decide +kernel
theorem dX4_isName_71 : decode cX4_isName 71 = .ok (.goto 4, 3) := by decide +kernel
theorem dX4_isName_74 : decode cX4_isName 74 = .ok (.iconst 0, 1) := by decide +kernel
theorem dX4_isName_75 : decode cX4_isName 75 = .ok (.istore_n 3, 1) := by decide +kernel
theorem dX4_isName_76 : decode cX4_isName 76 = .ok (.iinc 4 1, 3) := by decide +kernel
theorem dX4_isName_79 : decode cX4_isName 79 = .ok (.goto (-45), 3) := by decide +kernel
theorem dX4_isName_82 : decode cX4_isName 82 = .ok (.iload_n 3, 1) := by decide +kernel
theorem dX4_isName_83 : decode cX4_isName 83 = .ok (.ireturn, 1) := by decide +kernel
theorem dX4_wordHere_0 : decode cX4_wordHere 0 = .ok (.iconst 0, 1) := by decide +kernel
theorem dX4_wordHere_1 : decode cX4_wordHere 1 = .ok (.istore_n 1, 1) := by decide +kernel
theorem dX4_wordHere_2 : decode cX4_wordHere 2 = .ok (.iload_n 1, 1) := by decide +kernel
theorem dX4_wordHere_3 : decode cX4_wordHere 3 = .ok (.bipush 13, 2) := by decide +kernel
theorem dX4_wordHere_5 : decode cX4_wordHere 5 = .ok (.if_icmp .ge 26, 3) := by decide +kernel
theorem dX4_wordHere_8 : decode cX4_wordHere 8 = .ok (.aload_n 0, 1) := by decide +kernel
theorem dX4_wordHere_9 : decode cX4_wordHere 9 = .ok (.iload_n 1, 1) := by decide +kernel
theorem dX4_wordHere_10 : decode cX4_wordHere 10 = .ok (.aload_n 0, 1) := by decide +kernel
theorem dX4_wordHere_11 : decode cX4_wordHere 11 = .ok (.getfield 194, 3) := by decide +kernel
theorem dX4_wordHere_14 : decode cX4_wordHere 14 = .ok (.aload_n 0, 1) := by decide +kernel
theorem dX4_wordHere_15 : decode cX4_wordHere 15 = .ok (.getfield 191, 3) := by decide +kernel
theorem dX4_wordHere_18 : decode cX4_wordHere 18 = .ok (.isub, 1) := by decide +kernel
theorem dX4_wordHere_19 : decode cX4_wordHere 19 = .ok (.invokevirtual 197, 3) := by decide +kernel
theorem dX4_wordHere_22 : decode cX4_wordHere 22 = .ok (.ifCond .ne 9, 3) := by decide +kernel
theorem dX4_wordHere_25 : decode cX4_wordHere 25 = .ok (.iinc 1 1, 3) := by decide +kernel
theorem dX4_wordHere_28 : decode cX4_wordHere 28 = .ok (.goto (-26), 3) := by decide +kernel
theorem dX4_wordHere_31 : decode cX4_wordHere 31 = .ok (.iload_n 1, 1) := by decide +kernel
theorem dX4_wordHere_32 : decode cX4_wordHere 32 = .ok (.bipush 13, 2) := by decide +kernel
theorem dX4_wordHere_34 : decode cX4_wordHere 34 = .ok (.if_icmp .ge 7, 3) := by decide +kernel
theorem dX4_wordHere_37 : decode cX4_wordHere 37 = .ok (.iload_n 1, 1) := by decide +kernel
theorem dX4_wordHere_38 : decode cX4_wordHere 38 = .ok (.goto 5, 3) := by decide +kernel
theorem dX4_wordHere_41 : decode cX4_wordHere 41 = .ok (.bipush 23, 2) := by decide +kernel
theorem dX4_wordHere_43 : decode cX4_wordHere 43 = .ok (.ireturn, 1) := by decide +kernel
theorem dX4_reads_0 : decode cX4_reads 0 = .ok (.aload_n 0, 1) := by decide +kernel
theorem dX4_reads_1 : decode cX4_reads 1 = .ok (.aload_n 0, 1) := by decide +kernel
theorem dX4_reads_2 : decode cX4_reads 2 = .ok (.getfield 194, 3) := by decide +kernel
theorem dX4_reads_5 : decode cX4_reads 5 = .ok (.bipush 32, 2) := by decide +kernel
theorem dX4_reads_7 : decode cX4_reads 7 = .ok (.bipush 32, 2) := by decide +kernel
theorem dX4_reads_9 : decode cX4_reads 9 = .ok (.invokevirtual 200, 3) := by decide +kernel
theorem dX4_reads_12 : decode cX4_reads 12 = .ok (.ifCond .eq 16, 3) := by decide +kernel
theorem dX4_reads_15 : decode cX4_reads 15 = .ok (.aload_n 0, 1) := by decide +kernel
theorem dX4_reads_16 : decode cX4_reads 16 = .ok (.dup, 1) := by decide +kernel
theorem dX4_reads_17 : decode cX4_reads 17 = .ok (.getfield 194, 3) := by decide +kernel
theorem dX4_reads_20 : decode cX4_reads 20 = .ok (.iconst 1, 1) := by decide +kernel
theorem dX4_reads_21 : decode cX4_reads 21 = .ok (.iadd, 1) := by decide +kernel
theorem dX4_reads_22 : decode cX4_reads 22 = .ok (.putfield 194, 3) := by decide +kernel
theorem dX4_reads_25 : decode cX4_reads 25 = .ok (.goto (-25), 3) := by decide +kernel
theorem dX4_reads_28 : decode cX4_reads 28 = .ok (.aload_n 0, 1) := by decide +kernel
theorem dX4_reads_29 : decode cX4_reads 29 = .ok (.aload_n 0, 1) := by decide +kernel
theorem dX4_reads_30 : decode cX4_reads 30 = .ok (.getfield 194, 3) := by decide +kernel
theorem dX4_reads_33 : decode cX4_reads 33 = .ok (.putfield 191, 3) := by decide +kernel
theorem dX4_reads_36 : decode cX4_reads 36 = .ok (.aload_n 0, 1) := by decide +kernel
theorem dX4_reads_37 : decode cX4_reads 37 = .ok (.iconst 0, 1) := by decide +kernel
theorem dX4_reads_38 : decode cX4_reads 38 = .ok (.putfield 203, 3) := by decide +kernel
theorem dX4_reads_41 : decode cX4_reads 41 = .ok (.aload_n 0, 1) := by decide +kernel
theorem dX4_reads_42 : decode cX4_reads 42 = .ok (.getfield 194, 3) := by decide +kernel
theorem dX4_reads_45 : decode cX4_reads 45 = .ok (.aload_n 0, 1) := by decide +kernel
theorem dX4_reads_46 : decode cX4_reads 46 = .ok (.getfield 184, 3) := by decide +kernel
theorem dX4_reads_49 : decode cX4_reads 49 = .ok (.if_icmp .ne 12, 3) := by decide +kernel
theorem dX4_reads_52 : decode cX4_reads 52 = .ok (.aload_n 0, 1) := by decide +kernel
theorem dX4_reads_53 : decode cX4_reads 53 = .ok (.bipush 22, 2) := by decide +kernel
theorem dX4_reads_55 : decode cX4_reads 55 = .ok (.putfield 206, 3) := by decide +kernel
theorem dX4_reads_58 : decode cX4_reads 58 = .ok (.goto 186, 3) := by decide +kernel
theorem dX4_reads_61 : decode cX4_reads 61 = .ok (.aload_n 0, 1) := by decide +kernel
theorem dX4_reads_62 : decode cX4_reads 62 = .ok (.aload_n 0, 1) := by decide +kernel
theorem dX4_reads_63 : decode cX4_reads 63 = .ok (.getfield 194, 3) := by decide +kernel
theorem dX4_reads_66 : decode cX4_reads 66 = .ok (.bipush 97, 2) := by decide +kernel
theorem dX4_reads_68 : decode cX4_reads 68 = .ok (.bipush 122, 2) := by decide +kernel
theorem dX4_reads_70 : decode cX4_reads 70 = .ok (.invokevirtual 200, 3) := by decide +kernel
theorem dX4_reads_73 : decode cX4_reads 73 = .ok (.ifCond .eq 42, 3) := by decide +kernel
theorem dX4_reads_76 : decode cX4_reads 76 = .ok (.aload_n 0, 1) := by decide +kernel
theorem dX4_reads_77 : decode cX4_reads 77 = .ok (.aload_n 0, 1) := by decide +kernel
theorem dX4_reads_78 : decode cX4_reads 78 = .ok (.getfield 194, 3) := by decide +kernel
theorem dX4_reads_81 : decode cX4_reads 81 = .ok (.bipush 97, 2) := by decide +kernel
theorem dX4_reads_83 : decode cX4_reads 83 = .ok (.bipush 122, 2) := by decide +kernel
theorem dX4_reads_85 : decode cX4_reads 85 = .ok (.invokevirtual 200, 3) := by decide +kernel
theorem dX4_reads_88 : decode cX4_reads 88 = .ok (.ifCond .eq 16, 3) := by decide +kernel
theorem dX4_reads_91 : decode cX4_reads 91 = .ok (.aload_n 0, 1) := by decide +kernel
theorem dX4_reads_92 : decode cX4_reads 92 = .ok (.dup, 1) := by decide +kernel
theorem dX4_reads_93 : decode cX4_reads 93 = .ok (.getfield 194, 3) := by decide +kernel
theorem dX4_reads_96 : decode cX4_reads 96 = .ok (.iconst 1, 1) := by decide +kernel
theorem dX4_reads_97 : decode cX4_reads 97 = .ok (.iadd, 1) := by decide +kernel
theorem dX4_reads_98 : decode cX4_reads 98 = .ok (.putfield 194, 3) := by decide +kernel
theorem dX4_reads_101 : decode cX4_reads 101 = .ok (.goto (-25), 3) := by decide +kernel
theorem dX4_reads_104 : decode cX4_reads 104 = .ok (.aload_n 0, 1) := by decide +kernel
theorem dX4_reads_105 : decode cX4_reads 105 = .ok (.aload_n 0, 1) := by decide +kernel
theorem dX4_reads_106 : decode cX4_reads 106 = .ok (.invokevirtual 209, 3) := by decide +kernel
theorem dX4_reads_109 : decode cX4_reads 109 = .ok (.putfield 206, 3) := by decide +kernel
theorem dX4_reads_112 : decode cX4_reads 112 = .ok (.goto 132, 3) := by decide +kernel
theorem dX4_reads_115 : decode cX4_reads 115 = .ok (.aload_n 0, 1) := by decide +kernel
theorem dX4_reads_116 : decode cX4_reads 116 = .ok (.aload_n 0, 1) := by decide +kernel
theorem dX4_reads_117 : decode cX4_reads 117 = .ok (.getfield 194, 3) := by decide +kernel
theorem dX4_reads_120 : decode cX4_reads 120 = .ok (.bipush 48, 2) := by decide +kernel
theorem dX4_reads_122 : decode cX4_reads 122 = .ok (.bipush 57, 2) := by decide +kernel
theorem dX4_reads_124 : decode cX4_reads 124 = .ok (.invokevirtual 200, 3) := by decide +kernel
theorem dX4_reads_127 : decode cX4_reads 127 = .ok (.ifCond .eq 81, 3) := by decide +kernel
theorem dX4_reads_130 : decode cX4_reads 130 = .ok (.aload_n 0, 1) := by decide +kernel
theorem dX4_reads_131 : decode cX4_reads 131 = .ok (.aload_n 0, 1) := by decide +kernel
theorem dX4_reads_132 : decode cX4_reads 132 = .ok (.getfield 194, 3) := by decide +kernel
theorem dX4_reads_135 : decode cX4_reads 135 = .ok (.bipush 48, 2) := by decide +kernel
theorem dX4_reads_137 : decode cX4_reads 137 = .ok (.bipush 57, 2) := by decide +kernel
theorem dX4_reads_139 : decode cX4_reads 139 = .ok (.invokevirtual 200, 3) := by decide +kernel
theorem dX4_reads_142 : decode cX4_reads 142 = .ok (.ifCond .eq 57, 3) := by decide +kernel
theorem dX4_reads_145 : decode cX4_reads 145 = .ok (.aload_n 0, 1) := by decide +kernel
theorem dX4_reads_146 : decode cX4_reads 146 = .ok (.aload_n 0, 1) := by decide +kernel
theorem dX4_reads_147 : decode cX4_reads 147 = .ok (.getfield 203, 3) := by decide +kernel
theorem dX4_reads_150 : decode cX4_reads 150 = .ok (.sipush 9999, 3) := by decide +kernel
theorem dX4_reads_153 : decode cX4_reads 153 = .ok (.if_icmp .le 10, 3) := by decide +kernel
theorem dX4_reads_156 : decode cX4_reads 156 = .ok (.aload_n 0, 1) := by decide +kernel
theorem dX4_reads_157 : decode cX4_reads 157 = .ok (.getfield 203, 3) := by decide +kernel
theorem dX4_reads_160 : decode cX4_reads 160 = .ok (.goto 23, 3) := by decide +kernel
theorem dX4_reads_163 : decode cX4_reads 163 = .ok (.bipush 10, 2) := by decide +kernel
theorem dX4_reads_165 : decode cX4_reads 165 = .ok (.aload_n 0, 1) := by decide +kernel
theorem dX4_reads_166 : decode cX4_reads 166 = .ok (.getfield 203, 3) := by decide +kernel
theorem dX4_reads_169 : decode cX4_reads 169 = .ok (.imul, 1) := by decide +kernel
theorem dX4_reads_170 : decode cX4_reads 170 = .ok (.aload_n 0, 1) := by decide +kernel
theorem dX4_reads_171 : decode cX4_reads 171 = .ok (.getfield 31, 3) := by decide +kernel
theorem dX4_reads_174 : decode cX4_reads 174 = .ok (.aload_n 0, 1) := by decide +kernel
theorem dX4_reads_175 : decode cX4_reads 175 = .ok (.getfield 194, 3) := by decide +kernel
theorem dX4_reads_178 : decode cX4_reads 178 = .ok (.iaload, 1) := by decide +kernel
theorem dX4_reads_179 : decode cX4_reads 179 = .ok (.iadd, 1) := by decide +kernel
theorem dX4_reads_180 : decode cX4_reads 180 = .ok (.bipush 48, 2) := by decide +kernel
theorem dX4_reads_182 : decode cX4_reads 182 = .ok (.isub, 1) := by decide +kernel
theorem dX4_reads_183 : decode cX4_reads 183 = .ok (.putfield 203, 3) := by decide +kernel
theorem dX4_reads_186 : decode cX4_reads 186 = .ok (.aload_n 0, 1) := by decide +kernel
theorem dX4_reads_187 : decode cX4_reads 187 = .ok (.dup, 1) := by decide +kernel
theorem dX4_reads_188 : decode cX4_reads 188 = .ok (.getfield 194, 3) := by decide +kernel
theorem dX4_reads_191 : decode cX4_reads 191 = .ok (.iconst 1, 1) := by decide +kernel
theorem dX4_reads_192 : decode cX4_reads 192 = .ok (.iadd, 1) := by decide +kernel
theorem dX4_reads_193 : decode cX4_reads 193 = .ok (.putfield 194, 3) := by decide +kernel
theorem dX4_reads_196 : decode cX4_reads 196 = .ok (.goto (-66), 3) := by decide +kernel
theorem dX4_reads_199 : decode cX4_reads 199 = .ok (.aload_n 0, 1) := by decide +kernel
theorem dX4_reads_200 : decode cX4_reads 200 = .ok (.bipush 20, 2) := by decide +kernel
theorem dX4_reads_202 : decode cX4_reads 202 = .ok (.putfield 206, 3) := by decide +kernel
theorem dX4_reads_205 : decode cX4_reads 205 = .ok (.goto 39, 3) := by decide +kernel
theorem dX4_reads_208 : decode cX4_reads 208 = .ok (.aload_n 0, 1) := by decide +kernel
theorem dX4_reads_209 : decode cX4_reads 209 = .ok (.aload_n 0, 1) := by decide +kernel
theorem dX4_reads_210 : decode cX4_reads 210 = .ok (.aload_n 0, 1) := by decide +kernel
theorem dX4_reads_211 : decode cX4_reads 211 = .ok (.getfield 194, 3) := by decide +kernel
theorem dX4_reads_214 : decode cX4_reads 214 = .ok (.bipush 59, 2) := by decide +kernel
theorem dX4_reads_216 : decode cX4_reads 216 = .ok (.bipush 59, 2) := by decide +kernel
theorem dX4_reads_218 : decode cX4_reads 218 = .ok (.invokevirtual 200, 3) := by decide +kernel
theorem dX4_reads_221 : decode cX4_reads 221 = .ok (.ifCond .eq 8, 3) := by decide +kernel
theorem dX4_reads_224 : decode cX4_reads 224 = .ok (.bipush 21, 2) := by decide +kernel
theorem dX4_reads_226 : decode cX4_reads 226 = .ok (.goto 5, 3) := by decide +kernel
theorem dX4_reads_229 : decode cX4_reads 229 = .ok (.bipush 23, 2) := by decide +kernel
theorem dX4_reads_231 : decode cX4_reads 231 = .ok (.putfield 206, 3) := by decide +kernel
theorem dX4_reads_234 : decode cX4_reads 234 = .ok (.aload_n 0, 1) := by decide +kernel
theorem dX4_reads_235 : decode cX4_reads 235 = .ok (.dup, 1) := by decide +kernel
theorem dX4_reads_236 : decode cX4_reads 236 = .ok (.getfield 194, 3) := by decide +kernel
theorem dX4_reads_239 : decode cX4_reads 239 = .ok (.iconst 1, 1) := by decide +kernel
theorem dX4_reads_240 : decode cX4_reads 240 = .ok (.iadd, 1) := by decide +kernel
theorem dX4_reads_241 : decode cX4_reads 241 = .ok (.putfield 194, 3) := by decide +kernel
theorem dX4_reads_244 : decode cX4_reads 244 = .ok (.return_, 1) := by decide +kernel
theorem dX4_takes_0 : decode cX4_takes 0 = .ok (.aload_n 0, 1) := by decide +kernel
theorem dX4_takes_1 : decode cX4_takes 1 = .ok (.getfield 212, 3) := by decide +kernel
theorem dX4_takes_4 : decode cX4_takes 4 = .ok (.ifCond .ne 11, 3) := by decide +kernel
theorem dX4_takes_7 : decode cX4_takes 7 = .ok (.aload_n 0, 1) := by decide +kernel
theorem dX4_takes_8 : decode cX4_takes 8 = .ok (.getfield 206, 3) := by decide +kernel
theorem dX4_takes_11 : decode cX4_takes 11 = .ok (.iload_n 1, 1) := by decide +kernel
theorem dX4_takes_12 : decode cX4_takes 12 = .ok (.if_icmp .eq 5, 3) := by decide +kernel
theorem dX4_takes_15 : decode cX4_takes 15 = .ok (.iconst 0, 1) := by decide +kernel
theorem dX4_takes_16 : decode cX4_takes 16 = .ok (.ireturn, 1) := by decide +kernel
theorem dX4_takes_17 : decode cX4_takes 17 = .ok (.aload_n 0, 1) := by decide +kernel
theorem dX4_takes_18 : decode cX4_takes 18 = .ok (.invokevirtual 216, 3) := by decide +kernel
theorem dX4_takes_21 : decode cX4_takes 21 = .ok (.iconst 1, 1) := by decide +kernel
theorem dX4_takes_22 : decode cX4_takes 22 = .ok (.ireturn, 1) := by decide +kernel
theorem dX4_number_0 : decode cX4_number 0 = .ok (.aload_n 0, 1) := by decide +kernel
theorem dX4_number_1 : decode cX4_number 1 = .ok (.getfield 203, 3) := by decide +kernel
theorem dX4_number_4 : decode cX4_number 4 = .ok (.istore_n 3, 1) := by decide +kernel
theorem dX4_number_5 : decode cX4_number 5 = .ok (.aload_n 0, 1) := by decide +kernel
theorem dX4_number_6 : decode cX4_number 6 = .ok (.aload_n 0, 1) := by decide +kernel
theorem dX4_number_7 : decode cX4_number 7 = .ok (.getfield 212, 3) := by decide +kernel
theorem dX4_number_10 : decode cX4_number 10 = .ok (.ifCond .ne 21, 3) := by decide +kernel
theorem dX4_number_13 : decode cX4_number 13 = .ok (.aload_n 0, 1) := by decide +kernel
theorem dX4_number_14 : decode cX4_number 14 = .ok (.getfield 206, 3) := by decide +kernel
theorem dX4_number_17 : decode cX4_number 17 = .ok (.bipush 20, 2) := by decide +kernel
theorem dX4_number_19 : decode cX4_number 19 = .ok (.if_icmp .ne 12, 3) := by decide +kernel
theorem dX4_number_22 : decode cX4_number 22 = .ok (.iload_n 3, 1) := by decide +kernel
theorem dX4_number_23 : decode cX4_number 23 = .ok (.iload_n 1, 1) := by decide +kernel
theorem dX4_number_24 : decode cX4_number 24 = .ok (.iload_n 2, 1) := by decide +kernel
theorem dX4_number_25 : decode cX4_number 25 = .ok (.invokestatic 40, 3) := by decide +kernel
theorem dX4_number_28 : decode cX4_number 28 = .ok (.ifCond .ne 7, 3) := by decide +kernel
theorem dX4_number_31 : decode cX4_number 31 = .ok (.iconst 1, 1) := by decide +kernel
theorem dX4_number_32 : decode cX4_number 32 = .ok (.goto 4, 3) := by decide +kernel
theorem dX4_number_35 : decode cX4_number 35 = .ok (.iconst 0, 1) := by decide +kernel
theorem dX4_number_36 : decode cX4_number 36 = .ok (.putfield 212, 3) := by decide +kernel
theorem dX4_number_39 : decode cX4_number 39 = .ok (.aload_n 0, 1) := by decide +kernel
theorem dX4_number_40 : decode cX4_number 40 = .ok (.getfield 212, 3) := by decide +kernel
theorem dX4_number_43 : decode cX4_number 43 = .ok (.ifCond .ne 7, 3) := by decide +kernel
theorem dX4_number_46 : decode cX4_number 46 = .ok (.aload_n 0, 1) := by decide +kernel
theorem dX4_number_47 : decode cX4_number 47 = .ok (.invokevirtual 216, 3) := by decide +kernel
theorem dX4_number_50 : decode cX4_number 50 = .ok (.iload_n 3, 1) := by decide +kernel
theorem dX4_number_51 : decode cX4_number 51 = .ok (.ireturn, 1) := by decide +kernel
theorem dX4_perhaps_0 : decode cX4_perhaps 0 = .ok (.aload_n 0, 1) := by decide +kernel
theorem dX4_perhaps_1 : decode cX4_perhaps 1 = .ok (.iload_n 1, 1) := by decide +kernel
theorem dX4_perhaps_2 : decode cX4_perhaps 2 = .ok (.invokevirtual 219, 3) := by decide +kernel
theorem dX4_perhaps_5 : decode cX4_perhaps 5 = .ok (.ifCond .eq 12, 3) := by decide +kernel
theorem dX4_perhaps_8 : decode cX4_perhaps 8 = .ok (.aload_n 0, 1) := by decide +kernel
theorem dX4_perhaps_9 : decode cX4_perhaps 9 = .ok (.iload_n 2, 1) := by decide +kernel
theorem dX4_perhaps_10 : decode cX4_perhaps 10 = .ok (.iload_n 3, 1) := by decide +kernel
theorem dX4_perhaps_11 : decode cX4_perhaps 11 = .ok (.invokevirtual 222, 3) := by decide +kernel
theorem dX4_perhaps_14 : decode cX4_perhaps 14 = .ok (.goto 5, 3) := by decide +kernel
theorem dX4_perhaps_17 : decode cX4_perhaps 17 = .ok (.iload 4, 2) := by decide +kernel
theorem dX4_perhaps_19 : decode cX4_perhaps 19 = .ok (.ireturn, 1) := by decide +kernel
theorem dX4_dishItem_0 : decode cX4_dishItem 0 = .ok (.aload_n 0, 1) := by decide +kernel
theorem dX4_dishItem_1 : decode cX4_dishItem 1 = .ok (.getfield 206, 3) := by decide +kernel
theorem dX4_dishItem_4 : decode cX4_dishItem 4 = .ok (.istore_n 1, 1) := by decide +kernel
theorem dX4_dishItem_5 : decode cX4_dishItem 5 = .ok (.aload_n 0, 1) := by decide +kernel
theorem dX4_dishItem_6 : decode cX4_dishItem 6 = .ok (.aload_n 0, 1) := by decide +kernel
theorem dX4_dishItem_7 : decode cX4_dishItem 7 = .ok (.getfield 9, 3) := by decide +kernel
theorem dX4_dishItem_10 : decode cX4_dishItem 10 = .ok (.iconst 2, 1) := by decide +kernel
theorem dX4_dishItem_11 : decode cX4_dishItem 11 = .ok (.iaload, 1) := by decide +kernel
theorem dX4_dishItem_12 : decode cX4_dishItem 12 = .ok (.bipush 8, 2) := by decide +kernel
theorem dX4_dishItem_14 : decode cX4_dishItem 14 = .ok (.if_icmp .ne 7, 3) := by decide +kernel
theorem dX4_dishItem_17 : decode cX4_dishItem 17 = .ok (.iconst 1, 1) := by decide +kernel
theorem dX4_dishItem_18 : decode cX4_dishItem 18 = .ok (.goto 4, 3) := by decide +kernel
theorem dX4_dishItem_21 : decode cX4_dishItem 21 = .ok (.iconst 0, 1) := by decide +kernel
theorem dX4_dishItem_22 : decode cX4_dishItem 22 = .ok (.putfield 212, 3) := by decide +kernel
theorem dX4_dishItem_25 : decode cX4_dishItem 25 = .ok (.aload_n 0, 1) := by decide +kernel
theorem dX4_dishItem_26 : decode cX4_dishItem 26 = .ok (.getfield 212, 3) := by decide +kernel
theorem dX4_dishItem_29 : decode cX4_dishItem 29 = .ok (.ifCond .eq 4, 3) := by decide +kernel
theorem dX4_dishItem_32 : decode cX4_dishItem 32 = .ok (.return_, 1) := by decide +kernel
theorem dX4_dishItem_33 : decode cX4_dishItem 33 = .ok (.aload_n 0, 1) := by decide +kernel
theorem dX4_dishItem_34 : decode cX4_dishItem 34 = .ok (.invokevirtual 216, 3) := by decide +kernel
theorem dX4_dishItem_37 : decode cX4_dishItem 37 = .ok (.aload_n 0, 1) := by decide +kernel
theorem dX4_dishItem_38 : decode cX4_dishItem 38 = .ok (.iconst 0, 1) := by decide +kernel
theorem dX4_dishItem_39 : decode cX4_dishItem 39 = .ok (.bipush 11, 2) := by decide +kernel
theorem dX4_dishItem_41 : decode cX4_dishItem 41 = .ok (.invokevirtual 222, 3) := by decide +kernel
theorem dX4_dishItem_44 : decode cX4_dishItem 44 = .ok (.istore_n 2, 1) := by decide +kernel
theorem dX4_dishItem_45 : decode cX4_dishItem 45 = .ok (.aload_n 0, 1) := by decide +kernel
theorem dX4_dishItem_46 : decode cX4_dishItem 46 = .ok (.iconst 0, 1) := by decide +kernel
theorem dX4_dishItem_47 : decode cX4_dishItem 47 = .ok (.bipush 11, 2) := by decide +kernel
theorem dX4_dishItem_49 : decode cX4_dishItem 49 = .ok (.invokevirtual 222, 3) := by decide +kernel
theorem dX4_dishItem_52 : decode cX4_dishItem 52 = .ok (.istore_n 3, 1) := by decide +kernel
theorem dX4_dishItem_53 : decode cX4_dishItem 53 = .ok (.aload_n 0, 1) := by decide +kernel
theorem dX4_dishItem_54 : decode cX4_dishItem 54 = .ok (.bipush 7, 2) := by decide +kernel
theorem dX4_dishItem_56 : decode cX4_dishItem 56 = .ok (.iconst 0, 1) := by decide +kernel
theorem dX4_dishItem_57 : decode cX4_dishItem 57 = .ok (.bipush 99, 2) := by decide +kernel
theorem dX4_dishItem_59 : decode cX4_dishItem 59 = .ok (.bipush 10, 2) := by decide +kernel
theorem dX4_dishItem_61 : decode cX4_dishItem 61 = .ok (.invokevirtual 225, 3) := by decide +kernel
theorem dX4_dishItem_64 : decode cX4_dishItem 64 = .ok (.istore 4, 2) := by decide +kernel
theorem dX4_dishItem_66 : decode cX4_dishItem 66 = .ok (.aload_n 0, 1) := by decide +kernel
theorem dX4_dishItem_67 : decode cX4_dishItem 67 = .ok (.bipush 8, 2) := by decide +kernel
theorem dX4_dishItem_69 : decode cX4_dishItem 69 = .ok (.iconst 0, 1) := by decide +kernel
theorem dX4_dishItem_70 : decode cX4_dishItem 70 = .ok (.sipush 9999, 3) := by decide +kernel
theorem dX4_dishItem_73 : decode cX4_dishItem 73 = .ok (.iconst 0, 1) := by decide +kernel
theorem dX4_dishItem_74 : decode cX4_dishItem 74 = .ok (.invokevirtual 225, 3) := by decide +kernel
theorem dX4_dishItem_77 : decode cX4_dishItem 77 = .ok (.istore 5, 2) := by decide +kernel
theorem dX4_dishItem_79 : decode cX4_dishItem 79 = .ok (.aload_n 0, 1) := by decide +kernel
theorem dX4_dishItem_80 : decode cX4_dishItem 80 = .ok (.bipush 9, 2) := by decide +kernel
theorem dX4_dishItem_82 : decode cX4_dishItem 82 = .ok (.invokevirtual 219, 3) := by decide +kernel
theorem dX4_dishItem_85 : decode cX4_dishItem 85 = .ok (.ifCond .eq 7, 3) := by decide +kernel
theorem dX4_dishItem_88 : decode cX4_dishItem 88 = .ok (.iconst 1, 1) := by decide +kernel
theorem dX4_dishItem_89 : decode cX4_dishItem 89 = .ok (.goto 4, 3) := by decide +kernel
theorem dX4_dishItem_92 : decode cX4_dishItem 92 = .ok (.iconst 0, 1) := by decide +kernel
theorem dX4_dishItem_93 : decode cX4_dishItem 93 = .ok (.istore 6, 2) := by decide +kernel
theorem dX4_dishItem_95 : decode cX4_dishItem 95 = .ok (.aload_n 0, 1) := by decide +kernel
theorem dX4_dishItem_96 : decode cX4_dishItem 96 = .ok (.getfield 212, 3) := by decide +kernel
theorem dX4_dishItem_99 : decode cX4_dishItem 99 = .ok (.ifCond .ne 39, 3) := by decide +kernel
theorem dX4_dishItem_102 : decode cX4_dishItem 102 = .ok (.aload_n 0, 1) := by decide +kernel
theorem dX4_dishItem_103 : decode cX4_dishItem 103 = .ok (.iload_n 1, 1) := by decide +kernel
theorem dX4_dishItem_104 : decode cX4_dishItem 104 = .ok (.iload_n 2, 1) := by decide +kernel
theorem dX4_dishItem_105 : decode cX4_dishItem 105 = .ok (.iload_n 3, 1) := by decide +kernel
theorem dX4_dishItem_106 : decode cX4_dishItem 106 = .ok (.invokevirtual 70, 3) := by decide +kernel
theorem dX4_dishItem_109 : decode cX4_dishItem 109 = .ok (.istore 7, 2) := by decide +kernel
theorem dX4_dishItem_111 : decode cX4_dishItem 111 = .ok (.aload_n 0, 1) := by decide +kernel
theorem dX4_dishItem_112 : decode cX4_dishItem 112 = .ok (.iload 7, 2) := by decide +kernel
theorem dX4_dishItem_114 : decode cX4_dishItem 114 = .ok (.iconst 3, 1) := by decide +kernel
theorem dX4_dishItem_115 : decode cX4_dishItem 115 = .ok (.iload 4, 2) := by decide +kernel
theorem dX4_dishItem_117 : decode cX4_dishItem 117 = .ok (.invokevirtual 62, 3) := by decide +kernel
theorem dX4_dishItem_120 : decode cX4_dishItem 120 = .ok (.aload_n 0, 1) := by decide +kernel
theorem dX4_dishItem_121 : decode cX4_dishItem 121 = .ok (.iload 7, 2) := by decide +kernel
theorem dX4_dishItem_123 : decode cX4_dishItem 123 = .ok (.iconst 4, 1) := by decide +kernel
theorem dX4_dishItem_124 : decode cX4_dishItem 124 = .ok (.iload 5, 2) := by decide +kernel
theorem dX4_dishItem_126 : decode cX4_dishItem 126 = .ok (.invokevirtual 62, 3) := by decide +kernel
theorem dX4_dishItem_129 : decode cX4_dishItem 129 = .ok (.aload_n 0, 1) := by decide +kernel
theorem dX4_dishItem_130 : decode cX4_dishItem 130 = .ok (.iload 7, 2) := by decide +kernel
theorem dX4_dishItem_132 : decode cX4_dishItem 132 = .ok (.iconst 5, 1) := by decide +kernel
theorem dX4_dishItem_133 : decode cX4_dishItem 133 = .ok (.iload 6, 2) := by decide +kernel
theorem dX4_dishItem_135 : decode cX4_dishItem 135 = .ok (.invokevirtual 62, 3) := by decide +kernel
theorem dX4_dishItem_138 : decode cX4_dishItem 138 = .ok (.return_, 1) := by decide +kernel
theorem dX4_guestItem_0 : decode cX4_guestItem 0 = .ok (.aload_n 0, 1) := by decide +kernel
theorem dX4_guestItem_1 : decode cX4_guestItem 1 = .ok (.aload_n 0, 1) := by decide +kernel
theorem dX4_guestItem_2 : decode cX4_guestItem 2 = .ok (.getfield 9, 3) := by decide +kernel
theorem dX4_guestItem_5 : decode cX4_guestItem 5 = .ok (.iconst 3, 1) := by decide +kernel
theorem dX4_guestItem_6 : decode cX4_guestItem 6 = .ok (.iaload, 1) := by decide +kernel
theorem dX4_guestItem_7 : decode cX4_guestItem 7 = .ok (.bipush 6, 2) := by decide +kernel
theorem dX4_guestItem_9 : decode cX4_guestItem 9 = .ok (.if_icmp .ne 7, 3) := by decide +kernel
theorem dX4_guestItem_12 : decode cX4_guestItem 12 = .ok (.iconst 1, 1) := by decide +kernel
theorem dX4_guestItem_13 : decode cX4_guestItem 13 = .ok (.goto 4, 3) := by decide +kernel
theorem dX4_guestItem_16 : decode cX4_guestItem 16 = .ok (.iconst 0, 1) := by decide +kernel
theorem dX4_guestItem_17 : decode cX4_guestItem 17 = .ok (.putfield 212, 3) := by decide +kernel
theorem dX4_guestItem_20 : decode cX4_guestItem 20 = .ok (.aload_n 0, 1) := by decide +kernel
theorem dX4_guestItem_21 : decode cX4_guestItem 21 = .ok (.getfield 212, 3) := by decide +kernel
theorem dX4_guestItem_24 : decode cX4_guestItem 24 = .ok (.ifCond .eq 4, 3) := by decide +kernel
theorem dX4_guestItem_27 : decode cX4_guestItem 27 = .ok (.return_, 1) := by decide +kernel
theorem dX4_guestItem_28 : decode cX4_guestItem 28 = .ok (.aload_n 0, 1) := by decide +kernel
theorem dX4_guestItem_29 : decode cX4_guestItem 29 = .ok (.invokevirtual 216, 3) := by decide +kernel
theorem dX4_guestItem_32 : decode cX4_guestItem 32 = .ok (.aload_n 0, 1) := by decide +kernel
theorem dX4_guestItem_33 : decode cX4_guestItem 33 = .ok (.iconst 0, 1) := by decide +kernel
theorem dX4_guestItem_34 : decode cX4_guestItem 34 = .ok (.bipush 99, 2) := by decide +kernel
theorem dX4_guestItem_36 : decode cX4_guestItem 36 = .ok (.invokevirtual 222, 3) := by decide +kernel
theorem dX4_guestItem_39 : decode cX4_guestItem 39 = .ok (.istore_n 1, 1) := by decide +kernel
theorem dX4_guestItem_40 : decode cX4_guestItem 40 = .ok (.aload_n 0, 1) := by decide +kernel
theorem dX4_guestItem_41 : decode cX4_guestItem 41 = .ok (.bipush 11, 2) := by decide +kernel
theorem dX4_guestItem_43 : decode cX4_guestItem 43 = .ok (.iconst 0, 1) := by decide +kernel
theorem dX4_guestItem_44 : decode cX4_guestItem 44 = .ok (.bipush 11, 2) := by decide +kernel
theorem dX4_guestItem_46 : decode cX4_guestItem 46 = .ok (.iconst 0, 1) := by decide +kernel
theorem dX4_guestItem_47 : decode cX4_guestItem 47 = .ok (.invokevirtual 225, 3) := by decide +kernel
theorem dX4_guestItem_50 : decode cX4_guestItem 50 = .ok (.istore_n 2, 1) := by decide +kernel
theorem dX4_guestItem_51 : decode cX4_guestItem 51 = .ok (.aload_n 0, 1) := by decide +kernel
theorem dX4_guestItem_52 : decode cX4_guestItem 52 = .ok (.getfield 212, 3) := by decide +kernel
theorem dX4_guestItem_55 : decode cX4_guestItem 55 = .ok (.ifCond .ne 10, 3) := by decide +kernel
theorem dX4_guestItem_58 : decode cX4_guestItem 58 = .ok (.aload_n 0, 1) := by decide +kernel
theorem dX4_guestItem_59 : decode cX4_guestItem 59 = .ok (.iload_n 1, 1) := by decide +kernel
theorem dX4_guestItem_60 : decode cX4_guestItem 60 = .ok (.iload_n 2, 1) := by decide +kernel
theorem dX4_guestItem_61 : decode cX4_guestItem 61 = .ok (.invokevirtual 77, 3) := by decide +kernel
theorem dX4_guestItem_64 : decode cX4_guestItem 64 = .ok (.istore_n 3, 1) := by decide +kernel
theorem dX4_guestItem_65 : decode cX4_guestItem 65 = .ok (.return_, 1) := by decide +kernel
theorem dX4_mealItem_0 : decode cX4_mealItem 0 = .ok (.aload_n 0, 1) := by decide +kernel
theorem dX4_mealItem_1 : decode cX4_mealItem 1 = .ok (.iconst 0, 1) := by decide +kernel
theorem dX4_mealItem_2 : decode cX4_mealItem 2 = .ok (.iconst 5, 1) := by decide +kernel
theorem dX4_mealItem_3 : decode cX4_mealItem 3 = .ok (.invokevirtual 222, 3) := by decide +kernel
theorem dX4_mealItem_6 : decode cX4_mealItem 6 = .ok (.istore_n 1, 1) := by decide +kernel
theorem dX4_mealItem_7 : decode cX4_mealItem 7 = .ok (.aload_n 0, 1) := by decide +kernel
theorem dX4_mealItem_8 : decode cX4_mealItem 8 = .ok (.iconst 0, 1) := by decide +kernel
theorem dX4_mealItem_9 : decode cX4_mealItem 9 = .ok (.iconst 5, 1) := by decide +kernel
theorem dX4_mealItem_10 : decode cX4_mealItem 10 = .ok (.invokevirtual 222, 3) := by decide +kernel
theorem dX4_mealItem_13 : decode cX4_mealItem 13 = .ok (.istore_n 2, 1) := by decide +kernel
theorem dX4_mealItem_14 : decode cX4_mealItem 14 = .ok (.aload_n 0, 1) := by decide +kernel
theorem dX4_mealItem_15 : decode cX4_mealItem 15 = .ok (.iconst 0, 1) := by decide +kernel
theorem dX4_mealItem_16 : decode cX4_mealItem 16 = .ok (.bipush 7, 2) := by decide +kernel
theorem dX4_mealItem_18 : decode cX4_mealItem 18 = .ok (.invokevirtual 222, 3) := by decide +kernel
theorem dX4_mealItem_21 : decode cX4_mealItem 21 = .ok (.istore_n 3, 1) := by decide +kernel
theorem dX4_mealItem_22 : decode cX4_mealItem 22 = .ok (.aload_n 0, 1) := by decide +kernel
theorem dX4_mealItem_23 : decode cX4_mealItem 23 = .ok (.getfield 212, 3) := by decide +kernel
theorem dX4_mealItem_26 : decode cX4_mealItem 26 = .ok (.ifCond .ne 17, 3) := by decide +kernel
theorem dX4_mealItem_29 : decode cX4_mealItem 29 = .ok (.aload_n 0, 1) := by decide +kernel
theorem dX4_mealItem_30 : decode cX4_mealItem 30 = .ok (.getfield 9, 3) := by decide +kernel
theorem dX4_mealItem_33 : decode cX4_mealItem 33 = .ok (.iconst 4, 1) := by decide +kernel
theorem dX4_mealItem_34 : decode cX4_mealItem 34 = .ok (.iload_n 1, 1) := by decide +kernel
theorem dX4_mealItem_35 : decode cX4_mealItem 35 = .ok (.iadd, 1) := by decide +kernel
theorem dX4_mealItem_36 : decode cX4_mealItem 36 = .ok (.bipush 10, 2) := by decide +kernel
theorem dX4_mealItem_38 : decode cX4_mealItem 38 = .ok (.iload_n 2, 1) := by decide +kernel
theorem dX4_mealItem_39 : decode cX4_mealItem 39 = .ok (.imul, 1) := by decide +kernel
theorem dX4_mealItem_40 : decode cX4_mealItem 40 = .ok (.iload_n 3, 1) := by decide +kernel
theorem dX4_mealItem_41 : decode cX4_mealItem 41 = .ok (.iadd, 1) := by decide +kernel
theorem dX4_mealItem_42 : decode cX4_mealItem 42 = .ok (.iastore, 1) := by decide +kernel
theorem dX4_mealItem_43 : decode cX4_mealItem 43 = .ok (.return_, 1) := by decide +kernel
theorem dX4_item_0 : decode cX4_item 0 = .ok (.aload_n 0, 1) := by decide +kernel
theorem dX4_item_1 : decode cX4_item 1 = .ok (.getfield 206, 3) := by decide +kernel
theorem dX4_item_4 : decode cX4_item 4 = .ok (.bipush 6, 2) := by decide +kernel
theorem dX4_item_6 : decode cX4_item 6 = .ok (.if_icmp .gt 10, 3) := by decide +kernel
theorem dX4_item_9 : decode cX4_item 9 = .ok (.aload_n 0, 1) := by decide +kernel
theorem dX4_item_10 : decode cX4_item 10 = .ok (.invokevirtual 228, 3) := by decide +kernel
theorem dX4_item_13 : decode cX4_item 13 = .ok (.goto 40, 3) := by decide +kernel
theorem dX4_item_16 : decode cX4_item 16 = .ok (.aload_n 0, 1) := by decide +kernel
theorem dX4_item_17 : decode cX4_item 17 = .ok (.getfield 206, 3) := by decide +kernel
theorem dX4_item_20 : decode cX4_item 20 = .ok (.bipush 10, 2) := by decide +kernel
theorem dX4_item_22 : decode cX4_item 22 = .ok (.if_icmp .ne 10, 3) := by decide +kernel
theorem dX4_item_25 : decode cX4_item 25 = .ok (.aload_n 0, 1) := by decide +kernel
theorem dX4_item_26 : decode cX4_item 26 = .ok (.invokevirtual 231, 3) := by decide +kernel
theorem dX4_item_29 : decode cX4_item 29 = .ok (.goto 24, 3) := by decide +kernel
theorem dX4_item_32 : decode cX4_item 32 = .ok (.aload_n 0, 1) := by decide +kernel
theorem dX4_item_33 : decode cX4_item 33 = .ok (.bipush 12, 2) := by decide +kernel
theorem dX4_item_35 : decode cX4_item 35 = .ok (.invokevirtual 219, 3) := by decide +kernel
theorem dX4_item_38 : decode cX4_item 38 = .ok (.ifCond .eq 10, 3) := by decide +kernel
theorem dX4_item_41 : decode cX4_item 41 = .ok (.aload_n 0, 1) := by decide +kernel
theorem dX4_item_42 : decode cX4_item 42 = .ok (.invokevirtual 234, 3) := by decide +kernel
theorem dX4_item_45 : decode cX4_item 45 = .ok (.goto 8, 3) := by decide +kernel
theorem dX4_item_48 : decode cX4_item 48 = .ok (.aload_n 0, 1) := by decide +kernel
theorem dX4_item_49 : decode cX4_item 49 = .ok (.iconst 1, 1) := by decide +kernel
theorem dX4_item_50 : decode cX4_item 50 = .ok (.putfield 212, 3) := by decide +kernel
theorem dX4_item_53 : decode cX4_item 53 = .ok (.return_, 1) := by decide +kernel
theorem dX4_text_0 : decode cX4_text 0 = .ok (.aload_n 0, 1) := by decide +kernel
theorem dX4_text_1 : decode cX4_text 1 = .ok (.invokevirtual 144, 3) := by decide +kernel
theorem dX4_text_4 : decode cX4_text 4 = .ok (.aload_n 0, 1) := by decide +kernel
theorem dX4_text_5 : decode cX4_text 5 = .ok (.iconst 0, 1) := by decide +kernel
theorem dX4_text_6 : decode cX4_text 6 = .ok (.putfield 194, 3) := by decide +kernel
theorem dX4_text_9 : decode cX4_text 9 = .ok (.aload_n 0, 1) := by decide +kernel
theorem dX4_text_10 : decode cX4_text 10 = .ok (.iconst 0, 1) := by decide +kernel
theorem dX4_text_11 : decode cX4_text 11 = .ok (.putfield 212, 3) := by decide +kernel
theorem dX4_text_14 : decode cX4_text 14 = .ok (.aload_n 0, 1) := by decide +kernel
theorem dX4_text_15 : decode cX4_text 15 = .ok (.invokevirtual 216, 3) := by decide +kernel
theorem dX4_text_18 : decode cX4_text 18 = .ok (.aload_n 0, 1) := by decide +kernel
theorem dX4_text_19 : decode cX4_text 19 = .ok (.invokevirtual 237, 3) := by decide +kernel
theorem dX4_text_22 : decode cX4_text 22 = .ok (.iconst 1, 1) := by decide +kernel
theorem dX4_text_23 : decode cX4_text 23 = .ok (.istore_n 1, 1) := by decide +kernel
theorem dX4_text_24 : decode cX4_text 24 = .ok (.aload_n 0, 1) := by decide +kernel
theorem dX4_text_25 : decode cX4_text 25 = .ok (.bipush 21, 2) := by decide +kernel
theorem dX4_text_27 : decode cX4_text 27 = .ok (.invokevirtual 219, 3) := by decide +kernel
theorem dX4_text_30 : decode cX4_text 30 = .ok (.ifCond .eq 13, 3) := by decide +kernel
theorem dX4_text_33 : decode cX4_text 33 = .ok (.aload_n 0, 1) := by decide +kernel
theorem dX4_text_34 : decode cX4_text 34 = .ok (.invokevirtual 237, 3) := by decide +kernel
theorem dX4_text_37 : decode cX4_text 37 = .ok (.iinc 1 1, 3) := by decide +kernel
theorem dX4_text_40 : decode cX4_text 40 = .ok (.goto (-16), 3) := by decide +kernel
theorem dX4_text_43 : decode cX4_text 43 = .ok (.aload_n 0, 1) := by decide +kernel
theorem dX4_text_44 : decode cX4_text 44 = .ok (.aload_n 0, 1) := by decide +kernel
theorem dX4_text_45 : decode cX4_text 45 = .ok (.getfield 212, 3) := by decide +kernel
theorem dX4_text_48 : decode cX4_text 48 = .ok (.ifCond .ne 12, 3) := by decide +kernel
theorem dX4_text_51 : decode cX4_text 51 = .ok (.aload_n 0, 1) := by decide +kernel
theorem dX4_text_52 : decode cX4_text 52 = .ok (.getfield 206, 3) := by decide +kernel
theorem dX4_text_55 : decode cX4_text 55 = .ok (.bipush 22, 2) := by decide +kernel
theorem dX4_text_57 : decode cX4_text 57 = .ok (.if_icmp .eq 7, 3) := by decide +kernel
theorem dX4_text_60 : decode cX4_text 60 = .ok (.iconst 1, 1) := by decide +kernel
theorem dX4_text_61 : decode cX4_text 61 = .ok (.goto 4, 3) := by decide +kernel
theorem dX4_text_64 : decode cX4_text 64 = .ok (.iconst 0, 1) := by decide +kernel
theorem dX4_text_65 : decode cX4_text 65 = .ok (.putfield 212, 3) := by decide +kernel
theorem dX4_text_68 : decode cX4_text 68 = .ok (.aload_n 0, 1) := by decide +kernel
theorem dX4_text_69 : decode cX4_text 69 = .ok (.iconst 0, 1) := by decide +kernel
theorem dX4_text_70 : decode cX4_text 70 = .ok (.putfield 184, 3) := by decide +kernel
theorem dX4_text_73 : decode cX4_text 73 = .ok (.aload_n 0, 1) := by decide +kernel
theorem dX4_text_74 : decode cX4_text 74 = .ok (.getfield 212, 3) := by decide +kernel
theorem dX4_text_77 : decode cX4_text 77 = .ok (.ifCond .ne 5, 3) := by decide +kernel
theorem dX4_text_80 : decode cX4_text 80 = .ok (.iload_n 1, 1) := by decide +kernel
theorem dX4_text_81 : decode cX4_text 81 = .ok (.ireturn, 1) := by decide +kernel
theorem dX4_text_82 : decode cX4_text 82 = .ok (.aload_n 0, 1) := by decide +kernel
theorem dX4_text_83 : decode cX4_text 83 = .ok (.invokevirtual 147, 3) := by decide +kernel
theorem dX4_text_86 : decode cX4_text 86 = .ok (.iconst (-1), 1) := by decide +kernel
theorem dX4_text_87 : decode cX4_text 87 = .ok (.aload_n 0, 1) := by decide +kernel
theorem dX4_text_88 : decode cX4_text 88 = .ok (.getfield 191, 3) := by decide +kernel
theorem dX4_text_91 : decode cX4_text 91 = .ok (.isub, 1) := by decide +kernel
theorem dX4_text_92 : decode cX4_text 92 = .ok (.ireturn, 1) := by decide +kernel
theorem dX4_hold_0 : decode cX4_hold 0 = .ok (.iload_n 1, 1) := by decide +kernel
theorem dX4_hold_1 : decode cX4_hold 1 = .ok (.iconst 0, 1) := by decide +kernel
theorem dX4_hold_2 : decode cX4_hold 2 = .ok (.bipush 9, 2) := by decide +kernel
theorem dX4_hold_4 : decode cX4_hold 4 = .ok (.invokestatic 40, 3) := by decide +kernel
theorem dX4_hold_7 : decode cX4_hold 7 = .ok (.ifCond .eq 16, 3) := by decide +kernel
theorem dX4_hold_10 : decode cX4_hold 10 = .ok (.iload_n 2, 1) := by decide +kernel
theorem dX4_hold_11 : decode cX4_hold 11 = .ok (.iconst (-1), 1) := by decide +kernel
theorem dX4_hold_12 : decode cX4_hold 12 = .ok (.if_icmp .eq 18, 3) := by decide +kernel
theorem dX4_hold_15 : decode cX4_hold 15 = .ok (.aload_n 0, 1) := by decide +kernel
theorem dX4_hold_16 : decode cX4_hold 16 = .ok (.iload_n 2, 1) := by decide +kernel
theorem dX4_hold_17 : decode cX4_hold 17 = .ok (.invokevirtual 80, 3) := by decide +kernel
theorem dX4_hold_20 : decode cX4_hold 20 = .ok (.ifCond .ne 10, 3) := by decide +kernel
theorem dX4_hold_23 : decode cX4_hold 23 = .ok (.aload_n 0, 1) := by decide +kernel
theorem dX4_hold_24 : decode cX4_hold 24 = .ok (.ldc 34, 2) := by decide +kernel
theorem dX4_hold_26 : decode cX4_hold 26 = .ok (.invokevirtual 36, 3) := by decide +kernel
theorem dX4_hold_29 : decode cX4_hold 29 = .ok (.ireturn, 1) := by decide +kernel
theorem dX4_hold_30 : decode cX4_hold 30 = .ok (.aload_n 0, 1) := by decide +kernel
theorem dX4_hold_31 : decode cX4_hold 31 = .ok (.getfield 9, 3) := by decide +kernel
theorem dX4_hold_34 : decode cX4_hold 34 = .ok (.bipush 88, 2) := by decide +kernel
theorem dX4_hold_36 : decode cX4_hold 36 = .ok (.iload_n 1, 1) := by decide +kernel
theorem dX4_hold_37 : decode cX4_hold 37 = .ok (.iadd, 1) := by decide +kernel
theorem dX4_hold_38 : decode cX4_hold 38 = .ok (.iload_n 2, 1) := by decide +kernel
theorem dX4_hold_39 : decode cX4_hold 39 = .ok (.iastore, 1) := by decide +kernel
theorem dX4_hold_40 : decode cX4_hold 40 = .ok (.iconst 1, 1) := by decide +kernel
theorem dX4_hold_41 : decode cX4_hold 41 = .ok (.ireturn, 1) := by decide +kernel
theorem dX4_isUnder_0 : decode cX4_isUnder 0 = .ok (.iload_n 0, 1) := by decide +kernel
theorem dX4_isUnder_1 : decode cX4_isUnder 1 = .ok (.iconst 3, 1) := by decide +kernel
theorem dX4_isUnder_2 : decode cX4_isUnder 2 = .ok (.if_icmp .eq 8, 3) := by decide +kernel
theorem dX4_isUnder_5 : decode cX4_isUnder 5 = .ok (.iload_n 0, 1) := by decide +kernel
theorem dX4_isUnder_6 : decode cX4_isUnder 6 = .ok (.iconst 4, 1) := by decide +kernel
theorem dX4_isUnder_7 : decode cX4_isUnder 7 = .ok (.if_icmp .ne 7, 3) := by decide +kernel
theorem dX4_isUnder_10 : decode cX4_isUnder 10 = .ok (.iconst 1, 1) := by decide +kernel
theorem dX4_isUnder_11 : decode cX4_isUnder 11 = .ok (.goto 4, 3) := by decide +kernel
theorem dX4_isUnder_14 : decode cX4_isUnder 14 = .ok (.iconst 0, 1) := by decide +kernel
theorem dX4_isUnder_15 : decode cX4_isUnder 15 = .ok (.istore_n 2, 1) := by decide +kernel
theorem dX4_isUnder_16 : decode cX4_isUnder 16 = .ok (.iload_n 1, 1) := by decide +kernel
theorem dX4_isUnder_17 : decode cX4_isUnder 17 = .ok (.ifCond .eq 38, 3) := by decide +kernel
theorem dX4_isUnder_20 : decode cX4_isUnder 20 = .ok (.iload_n 1, 1) := by decide +kernel
theorem dX4_isUnder_21 : decode cX4_isUnder 21 = .ok (.iload_n 0, 1) := by decide +kernel
theorem dX4_isUnder_22 : decode cX4_isUnder 22 = .ok (.if_icmp .eq 33, 3) := by decide +kernel
theorem dX4_isUnder_25 : decode cX4_isUnder 25 = .ok (.iload_n 1, 1) := by decide +kernel
theorem dX4_isUnder_26 : decode cX4_isUnder 26 = .ok (.iconst 2, 1) := by decide +kernel
theorem dX4_isUnder_27 : decode cX4_isUnder 27 = .ok (.if_icmp .ne 7, 3) := by decide +kernel
theorem dX4_isUnder_30 : decode cX4_isUnder 30 = .ok (.iload_n 2, 1) := by decide +kernel
theorem dX4_isUnder_31 : decode cX4_isUnder 31 = .ok (.ifCond .ne 24, 3) := by decide +kernel
theorem dX4_isUnder_34 : decode cX4_isUnder 34 = .ok (.iload_n 1, 1) := by decide +kernel
theorem dX4_isUnder_35 : decode cX4_isUnder 35 = .ok (.iconst 3, 1) := by decide +kernel
theorem dX4_isUnder_36 : decode cX4_isUnder 36 = .ok (.if_icmp .ne 8, 3) := by decide +kernel
theorem dX4_isUnder_39 : decode cX4_isUnder 39 = .ok (.iload_n 0, 1) := by decide +kernel
theorem dX4_isUnder_40 : decode cX4_isUnder 40 = .ok (.iconst 4, 1) := by decide +kernel
theorem dX4_isUnder_41 : decode cX4_isUnder 41 = .ok (.if_icmp .eq 14, 3) := by decide +kernel
theorem dX4_isUnder_44 : decode cX4_isUnder 44 = .ok (.iload_n 1, 1) := by decide +kernel
theorem dX4_isUnder_45 : decode cX4_isUnder 45 = .ok (.iconst 1, 1) := by decide +kernel
theorem dX4_isUnder_46 : decode cX4_isUnder 46 = .ok (.if_icmp .ne 13, 3) := by decide +kernel
theorem dX4_isUnder_49 : decode cX4_isUnder 49 = .ok (.iload_n 0, 1) := by decide +kernel
theorem dX4_isUnder_50 : decode cX4_isUnder 50 = .ok (.bipush 6, 2) := by decide +kernel
theorem dX4_isUnder_52 : decode cX4_isUnder 52 = .ok (.if_icmp .ne 7, 3) := by decide +kernel
theorem dX4_isUnder_55 : decode cX4_isUnder 55 = .ok (.iconst 1, 1) := by decide +kernel
theorem dX4_isUnder_56 : decode cX4_isUnder 56 = .ok (.goto 4, 3) := by decide +kernel
theorem dX4_isUnder_59 : decode cX4_isUnder 59 = .ok (.iconst 0, 1) := by decide +kernel
theorem dX4_isUnder_60 : decode cX4_isUnder 60 = .ok (.ireturn, 1) := by decide +kernel
theorem dX4_as_0 : decode cX4_as 0 = .ok (.iload_n 1, 1) := by decide +kernel
theorem dX4_as_1 : decode cX4_as 1 = .ok (.iconst 0, 1) := by decide +kernel
theorem dX4_as_2 : decode cX4_as 2 = .ok (.bipush 9, 2) := by decide +kernel
theorem dX4_as_4 : decode cX4_as 4 = .ok (.invokestatic 40, 3) := by decide +kernel
theorem dX4_as_7 : decode cX4_as 7 = .ok (.ifCond .eq 13, 3) := by decide +kernel
theorem dX4_as_10 : decode cX4_as 10 = .ok (.iload_n 2, 1) := by decide +kernel
theorem dX4_as_11 : decode cX4_as 11 = .ok (.iconst 0, 1) := by decide +kernel
theorem dX4_as_12 : decode cX4_as 12 = .ok (.bipush 6, 2) := by decide +kernel
theorem dX4_as_14 : decode cX4_as 14 = .ok (.invokestatic 40, 3) := by decide +kernel
theorem dX4_as_17 : decode cX4_as 17 = .ok (.ifCond .ne 10, 3) := by decide +kernel
theorem dX4_as_20 : decode cX4_as 20 = .ok (.aload_n 0, 1) := by decide +kernel
theorem dX4_as_21 : decode cX4_as 21 = .ok (.ldc 34, 2) := by decide +kernel
theorem dX4_as_23 : decode cX4_as 23 = .ok (.invokevirtual 36, 3) := by decide +kernel
theorem dX4_as_26 : decode cX4_as 26 = .ok (.ireturn, 1) := by decide +kernel
theorem dX4_as_27 : decode cX4_as 27 = .ok (.aload_n 0, 1) := by decide +kernel
theorem dX4_as_28 : decode cX4_as 28 = .ok (.getfield 9, 3) := by decide +kernel
theorem dX4_as_31 : decode cX4_as 31 = .ok (.bipush 88, 2) := by decide +kernel
theorem dX4_as_33 : decode cX4_as 33 = .ok (.iload_n 1, 1) := by decide +kernel
theorem dX4_as_34 : decode cX4_as 34 = .ok (.iadd, 1) := by decide +kernel
theorem dX4_as_35 : decode cX4_as 35 = .ok (.iaload, 1) := by decide +kernel
theorem dX4_as_36 : decode cX4_as 36 = .ok (.istore_n 3, 1) := by decide +kernel
theorem dX4_as_37 : decode cX4_as 37 = .ok (.iload_n 3, 1) := by decide +kernel
theorem dX4_as_38 : decode cX4_as 38 = .ok (.ifCond .ge 10, 3) := by decide +kernel
theorem dX4_as_41 : decode cX4_as 41 = .ok (.aload_n 0, 1) := by decide +kernel
theorem dX4_as_42 : decode cX4_as 42 = .ok (.ldc 173, 2) := by decide +kernel
theorem dX4_as_44 : decode cX4_as 44 = .ok (.invokevirtual 36, 3) := by decide +kernel
theorem dX4_as_47 : decode cX4_as 47 = .ok (.ireturn, 1) := by decide +kernel
theorem dX4_as_48 : decode cX4_as 48 = .ok (.aload_n 0, 1) := by decide +kernel
theorem dX4_as_49 : decode cX4_as 49 = .ok (.iload_n 3, 1) := by decide +kernel
theorem dX4_as_50 : decode cX4_as 50 = .ok (.iconst 0, 1) := by decide +kernel
theorem dX4_as_51 : decode cX4_as 51 = .ok (.invokevirtual 48, 3) := by decide +kernel
theorem dX4_as_54 : decode cX4_as 54 = .ok (.iload_n 2, 1) := by decide +kernel
theorem dX4_as_55 : decode cX4_as 55 = .ok (.invokestatic 240, 3) := by decide +kernel
theorem dX4_as_58 : decode cX4_as 58 = .ok (.ifCond .eq 7, 3) := by decide +kernel
theorem dX4_as_61 : decode cX4_as 61 = .ok (.iload_n 3, 1) := by decide +kernel
theorem dX4_as_62 : decode cX4_as 62 = .ok (.goto 9, 3) := by decide +kernel
theorem dX4_as_65 : decode cX4_as 65 = .ok (.aload_n 0, 1) := by decide +kernel
theorem dX4_as_66 : decode cX4_as 66 = .ok (.ldc 243, 2) := by decide +kernel
theorem dX4_as_68 : decode cX4_as 68 = .ok (.invokevirtual 36, 3) := by decide +kernel
theorem dX4_as_71 : decode cX4_as 71 = .ok (.ireturn, 1) := by decide +kernel
theorem dX4_sheet_0 : decode cX4_sheet 0 = .ok (.iload_n 1, 1) := by decide +kernel
theorem dX4_sheet_1 : decode cX4_sheet 1 = .ok (.invokestatic 170, 3) := by decide +kernel
theorem dX4_sheet_4 : decode cX4_sheet 4 = .ok (.ifCond .eq 25, 3) := by decide +kernel
theorem dX4_sheet_7 : decode cX4_sheet 7 = .ok (.iload_n 2, 1) := by decide +kernel
theorem dX4_sheet_8 : decode cX4_sheet 8 = .ok (.ifCond .eq 28, 3) := by decide +kernel
theorem dX4_sheet_11 : decode cX4_sheet 11 = .ok (.iload_n 2, 1) := by decide +kernel
theorem dX4_sheet_12 : decode cX4_sheet 12 = .ok (.bipush 8, 2) := by decide +kernel
theorem dX4_sheet_14 : decode cX4_sheet 14 = .ok (.if_icmp .eq 22, 3) := by decide +kernel
theorem dX4_sheet_17 : decode cX4_sheet 17 = .ok (.iload_n 2, 1) := by decide +kernel
theorem dX4_sheet_18 : decode cX4_sheet 18 = .ok (.bipush 16, 2) := by decide +kernel
theorem dX4_sheet_20 : decode cX4_sheet 20 = .ok (.if_icmp .eq 16, 3) := by decide +kernel
theorem dX4_sheet_23 : decode cX4_sheet 23 = .ok (.iload_n 2, 1) := by decide +kernel
theorem dX4_sheet_24 : decode cX4_sheet 24 = .ok (.bipush 32, 2) := by decide +kernel
theorem dX4_sheet_26 : decode cX4_sheet 26 = .ok (.if_icmp .eq 10, 3) := by decide +kernel
theorem dX4_sheet_29 : decode cX4_sheet 29 = .ok (.aload_n 0, 1) := by decide +kernel
theorem dX4_sheet_30 : decode cX4_sheet 30 = .ok (.ldc 34, 2) := by decide +kernel
theorem dX4_sheet_32 : decode cX4_sheet 32 = .ok (.invokevirtual 36, 3) := by decide +kernel
theorem dX4_sheet_35 : decode cX4_sheet 35 = .ok (.ireturn, 1) := by decide +kernel
theorem dX4_sheet_36 : decode cX4_sheet 36 = .ok (.iload_n 3, 1) := by decide +kernel
theorem dX4_sheet_37 : decode cX4_sheet 37 = .ok (.ifCond .ge 10, 3) := by decide +kernel
theorem dX4_sheet_40 : decode cX4_sheet 40 = .ok (.aload_n 0, 1) := by decide +kernel
theorem dX4_sheet_41 : decode cX4_sheet 41 = .ok (.ldc 244, 2) := by decide +kernel
theorem dX4_sheet_43 : decode cX4_sheet 43 = .ok (.invokevirtual 36, 3) := by decide +kernel
theorem dX4_sheet_46 : decode cX4_sheet 46 = .ok (.ireturn, 1) := by decide +kernel
theorem dX4_sheet_47 : decode cX4_sheet 47 = .ok (.iload_n 3, 1) := by decide +kernel
theorem dX4_sheet_48 : decode cX4_sheet 48 = .ok (.bipush 40, 2) := by decide +kernel
theorem dX4_sheet_50 : decode cX4_sheet 50 = .ok (.if_icmp .le 10, 3) := by decide +kernel
theorem dX4_sheet_53 : decode cX4_sheet 53 = .ok (.aload_n 0, 1) := by decide +kernel
theorem dX4_sheet_54 : decode cX4_sheet 54 = .ok (.ldc 34, 2) := by decide +kernel
theorem dX4_sheet_56 : decode cX4_sheet 56 = .ok (.invokevirtual 36, 3) := by decide +kernel
theorem dX4_sheet_59 : decode cX4_sheet 59 = .ok (.ireturn, 1) := by decide +kernel
theorem dX4_sheet_60 : decode cX4_sheet 60 = .ok (.aload_n 0, 1) := by decide +kernel
theorem dX4_sheet_61 : decode cX4_sheet 61 = .ok (.getfield 22, 3) := by decide +kernel
theorem dX4_sheet_64 : decode cX4_sheet 64 = .ok (.iload_n 1, 1) := by decide +kernel
theorem dX4_sheet_65 : decode cX4_sheet 65 = .ok (.iload_n 2, 1) := by decide +kernel
theorem dX4_sheet_66 : decode cX4_sheet 66 = .ok (.iastore, 1) := by decide +kernel
theorem dX4_sheet_67 : decode cX4_sheet 67 = .ok (.aload_n 0, 1) := by decide +kernel
theorem dX4_sheet_68 : decode cX4_sheet 68 = .ok (.getfield 25, 3) := by decide +kernel
theorem dX4_sheet_71 : decode cX4_sheet 71 = .ok (.iload_n 1, 1) := by decide +kernel
theorem dX4_sheet_72 : decode cX4_sheet 72 = .ok (.iload_n 2, 1) := by decide +kernel
theorem dX4_sheet_73 : decode cX4_sheet 73 = .ok (.ifCond .ne 7, 3) := by decide +kernel
theorem dX4_sheet_76 : decode cX4_sheet 76 = .ok (.iconst 0, 1) := by decide +kernel
theorem dX4_sheet_77 : decode cX4_sheet 77 = .ok (.goto 4, 3) := by decide +kernel
theorem dX4_sheet_80 : decode cX4_sheet 80 = .ok (.iload_n 3, 1) := by decide +kernel
theorem dX4_sheet_81 : decode cX4_sheet 81 = .ok (.iastore, 1) := by decide +kernel
theorem dX4_sheet_82 : decode cX4_sheet 82 = .ok (.iconst 0, 1) := by decide +kernel
theorem dX4_sheet_83 : decode cX4_sheet 83 = .ok (.istore 4, 2) := by decide +kernel
theorem dX4_sheet_85 : decode cX4_sheet 85 = .ok (.iload 4, 2) := by decide +kernel
theorem dX4_sheet_87 : decode cX4_sheet 87 = .ok (.bipush 40, 2) := by decide +kernel
theorem dX4_sheet_89 : decode cX4_sheet 89 = .ok (.if_icmp .ge 22, 3) := by decide +kernel
theorem dX4_sheet_92 : decode cX4_sheet 92 = .ok (.aload_n 0, 1) := by decide +kernel
theorem dX4_sheet_93 : decode cX4_sheet 93 = .ok (.getfield 28, 3) := by decide +kernel
theorem dX4_sheet_96 : decode cX4_sheet 96 = .ok (.bipush 40, 2) := by decide +kernel
theorem dX4_sheet_98 : decode cX4_sheet 98 = .ok (.iload_n 1, 1) := by decide +kernel
theorem dX4_sheet_99 : decode cX4_sheet 99 = .ok (.imul, 1) := by decide +kernel
theorem dX4_sheet_100 : decode cX4_sheet 100 = .ok (.iload 4, 2) := by decide +kernel
theorem dX4_sheet_102 : decode cX4_sheet 102 = .ok (.iadd, 1) := by decide +kernel
theorem dX4_sheet_103 : decode cX4_sheet 103 = .ok (.iconst 0, 1) := by decide +kernel
theorem dX4_sheet_104 : decode cX4_sheet 104 = .ok (.iastore, 1) := by decide +kernel
theorem dX4_sheet_105 : decode cX4_sheet 105 = .ok (.iinc 4 1, 3) := by decide +kernel
theorem dX4_sheet_108 : decode cX4_sheet 108 = .ok (.goto (-23), 3) := by decide +kernel
theorem dX4_sheet_111 : decode cX4_sheet 111 = .ok (.aload_n 0, 1) := by decide +kernel
theorem dX4_sheet_112 : decode cX4_sheet 112 = .ok (.getfield 25, 3) := by decide +kernel
theorem dX4_sheet_115 : decode cX4_sheet 115 = .ok (.iload_n 1, 1) := by decide +kernel
theorem dX4_sheet_116 : decode cX4_sheet 116 = .ok (.iaload, 1) := by decide +kernel
theorem dX4_sheet_117 : decode cX4_sheet 117 = .ok (.ireturn, 1) := by decide +kernel
theorem dX4_write_0 : decode cX4_write 0 = .ok (.aload_n 0, 1) := by decide +kernel
theorem dX4_write_1 : decode cX4_write 1 = .ok (.iload_n 1, 1) := by decide +kernel
theorem dX4_write_2 : decode cX4_write 2 = .ok (.invokevirtual 174, 3) := by decide +kernel
theorem dX4_write_5 : decode cX4_write 5 = .ok (.istore 4, 2) := by decide +kernel
theorem dX4_write_7 : decode cX4_write 7 = .ok (.iload 4, 2) := by decide +kernel
theorem dX4_write_9 : decode cX4_write 9 = .ok (.ifCond .ne 24, 3) := by decide +kernel
theorem dX4_write_12 : decode cX4_write 12 = .ok (.iload_n 2, 1) := by decide +kernel
theorem dX4_write_13 : decode cX4_write 13 = .ok (.iconst 0, 1) := by decide +kernel
theorem dX4_write_14 : decode cX4_write 14 = .ok (.aload_n 0, 1) := by decide +kernel
theorem dX4_write_15 : decode cX4_write 15 = .ok (.getfield 25, 3) := by decide +kernel
theorem dX4_write_18 : decode cX4_write 18 = .ok (.iload_n 1, 1) := by decide +kernel
theorem dX4_write_19 : decode cX4_write 19 = .ok (.iaload, 1) := by decide +kernel
theorem dX4_write_20 : decode cX4_write 20 = .ok (.iconst 1, 1) := by decide +kernel
theorem dX4_write_21 : decode cX4_write 21 = .ok (.isub, 1) := by decide +kernel
theorem dX4_write_22 : decode cX4_write 22 = .ok (.invokestatic 40, 3) := by decide +kernel
theorem dX4_write_25 : decode cX4_write 25 = .ok (.ifCond .ne 8, 3) := by decide +kernel
theorem dX4_write_28 : decode cX4_write 28 = .ok (.ldc 34, 2) := by decide +kernel
theorem dX4_write_30 : decode cX4_write 30 = .ok (.goto 5, 3) := by decide +kernel
theorem dX4_write_33 : decode cX4_write 33 = .ok (.iload 4, 2) := by decide +kernel
theorem dX4_write_35 : decode cX4_write 35 = .ok (.istore 4, 2) := by decide +kernel
theorem dX4_write_37 : decode cX4_write 37 = .ok (.iload 4, 2) := by decide +kernel
theorem dX4_write_39 : decode cX4_write 39 = .ok (.ifCond .eq 10, 3) := by decide +kernel
theorem dX4_write_42 : decode cX4_write 42 = .ok (.aload_n 0, 1) := by decide +kernel
theorem dX4_write_43 : decode cX4_write 43 = .ok (.iload 4, 2) := by decide +kernel
theorem dX4_write_45 : decode cX4_write 45 = .ok (.invokevirtual 36, 3) := by decide +kernel
theorem dX4_write_48 : decode cX4_write 48 = .ok (.ireturn, 1) := by decide +kernel
theorem dX4_write_49 : decode cX4_write 49 = .ok (.aload_n 0, 1) := by decide +kernel
theorem dX4_write_50 : decode cX4_write 50 = .ok (.getfield 28, 3) := by decide +kernel
theorem dX4_write_53 : decode cX4_write 53 = .ok (.bipush 40, 2) := by decide +kernel
theorem dX4_write_55 : decode cX4_write 55 = .ok (.iload_n 1, 1) := by decide +kernel
theorem dX4_write_56 : decode cX4_write 56 = .ok (.imul, 1) := by decide +kernel
theorem dX4_write_57 : decode cX4_write 57 = .ok (.iload_n 2, 1) := by decide +kernel
theorem dX4_write_58 : decode cX4_write 58 = .ok (.iadd, 1) := by decide +kernel
theorem dX4_write_59 : decode cX4_write 59 = .ok (.aload_n 0, 1) := by decide +kernel
theorem dX4_write_60 : decode cX4_write 60 = .ok (.getfield 22, 3) := by decide +kernel
theorem dX4_write_63 : decode cX4_write 63 = .ok (.iload_n 1, 1) := by decide +kernel
theorem dX4_write_64 : decode cX4_write 64 = .ok (.iaload, 1) := by decide +kernel
theorem dX4_write_65 : decode cX4_write 65 = .ok (.bipush 8, 2) := by decide +kernel
theorem dX4_write_67 : decode cX4_write 67 = .ok (.if_icmp .ne 8, 3) := by decide +kernel
theorem dX4_write_70 : decode cX4_write 70 = .ok (.iload_n 3, 1) := by decide +kernel
theorem dX4_write_71 : decode cX4_write 71 = .ok (.i2b, 1) := by decide +kernel
theorem dX4_write_72 : decode cX4_write 72 = .ok (.goto 20, 3) := by decide +kernel
theorem dX4_write_75 : decode cX4_write 75 = .ok (.aload_n 0, 1) := by decide +kernel
theorem dX4_write_76 : decode cX4_write 76 = .ok (.getfield 22, 3) := by decide +kernel
theorem dX4_write_79 : decode cX4_write 79 = .ok (.iload_n 1, 1) := by decide +kernel
theorem dX4_write_80 : decode cX4_write 80 = .ok (.iaload, 1) := by decide +kernel
theorem dX4_write_81 : decode cX4_write 81 = .ok (.bipush 16, 2) := by decide +kernel
theorem dX4_write_83 : decode cX4_write 83 = .ok (.if_icmp .ne 8, 3) := by decide +kernel
theorem dX4_write_86 : decode cX4_write 86 = .ok (.iload_n 3, 1) := by decide +kernel
theorem dX4_write_87 : decode cX4_write 87 = .ok (.i2s, 1) := by decide +kernel
theorem dX4_write_88 : decode cX4_write 88 = .ok (.goto 4, 3) := by decide +kernel
theorem dX4_write_91 : decode cX4_write 91 = .ok (.iload_n 3, 1) := by decide +kernel
theorem dX4_write_92 : decode cX4_write 92 = .ok (.iastore, 1) := by decide +kernel
theorem dX4_write_93 : decode cX4_write 93 = .ok (.iconst 1, 1) := by decide +kernel
theorem dX4_write_94 : decode cX4_write 94 = .ok (.ireturn, 1) := by decide +kernel
theorem dX4_notCopied_0 : decode cX4_notCopied 0 = .ok (.iload_n 1, 1) := by decide +kernel
theorem dX4_notCopied_1 : decode cX4_notCopied 1 = .ok (.invokestatic 170, 3) := by decide +kernel
theorem dX4_notCopied_4 : decode cX4_notCopied 4 = .ok (.ifCond .eq 10, 3) := by decide +kernel
theorem dX4_notCopied_7 : decode cX4_notCopied 7 = .ok (.iload_n 3, 1) := by decide +kernel
theorem dX4_notCopied_8 : decode cX4_notCopied 8 = .ok (.invokestatic 170, 3) := by decide +kernel
theorem dX4_notCopied_11 : decode cX4_notCopied 11 = .ok (.ifCond .ne 6, 3) := by decide +kernel
theorem dX4_notCopied_14 : decode cX4_notCopied 14 = .ok (.ldc 34, 2) := by decide +kernel
theorem dX4_notCopied_16 : decode cX4_notCopied 16 = .ok (.ireturn, 1) := by decide +kernel
theorem dX4_notCopied_17 : decode cX4_notCopied 17 = .ok (.aload_n 0, 1) := by decide +kernel
theorem dX4_notCopied_18 : decode cX4_notCopied 18 = .ok (.getfield 22, 3) := by decide +kernel
theorem dX4_notCopied_21 : decode cX4_notCopied 21 = .ok (.iload_n 1, 1) := by decide +kernel
theorem dX4_notCopied_22 : decode cX4_notCopied 22 = .ok (.iaload, 1) := by decide +kernel
theorem dX4_notCopied_23 : decode cX4_notCopied 23 = .ok (.ifCond .eq 12, 3) := by decide +kernel
theorem dX4_notCopied_26 : decode cX4_notCopied 26 = .ok (.aload_n 0, 1) := by decide +kernel
theorem dX4_notCopied_27 : decode cX4_notCopied 27 = .ok (.getfield 22, 3) := by decide +kernel
theorem dX4_notCopied_30 : decode cX4_notCopied 30 = .ok (.iload_n 3, 1) := by decide +kernel
theorem dX4_notCopied_31 : decode cX4_notCopied 31 = .ok (.iaload, 1) := by decide +kernel
theorem dX4_notCopied_32 : decode cX4_notCopied 32 = .ok (.ifCond .ne 6, 3) := by decide +kernel
theorem dX4_notCopied_35 : decode cX4_notCopied 35 = .ok (.ldc 173, 2) := by decide +kernel
theorem dX4_notCopied_37 : decode cX4_notCopied 37 = .ok (.ireturn, 1) := by decide +kernel
theorem dX4_notCopied_38 : decode cX4_notCopied 38 = .ok (.aload_n 0, 1) := by decide +kernel
theorem dX4_notCopied_39 : decode cX4_notCopied 39 = .ok (.getfield 22, 3) := by decide +kernel
theorem dX4_notCopied_42 : decode cX4_notCopied 42 = .ok (.iload_n 1, 1) := by decide +kernel
theorem dX4_notCopied_43 : decode cX4_notCopied 43 = .ok (.iaload, 1) := by decide +kernel
theorem dX4_notCopied_44 : decode cX4_notCopied 44 = .ok (.aload_n 0, 1) := by decide +kernel
theorem dX4_notCopied_45 : decode cX4_notCopied 45 = .ok (.getfield 22, 3) := by decide +kernel
theorem dX4_notCopied_48 : decode cX4_notCopied 48 = .ok (.iload_n 3, 1) := by decide +kernel
theorem dX4_notCopied_49 : decode cX4_notCopied 49 = .ok (.iaload, 1) := by decide +kernel
theorem dX4_notCopied_50 : decode cX4_notCopied 50 = .ok (.if_icmp .eq 6, 3) := by decide +kernel
theorem dX4_notCopied_53 : decode cX4_notCopied 53 = .ok (.ldc 243, 2) := by decide +kernel
theorem dX4_notCopied_55 : decode cX4_notCopied 55 = .ok (.ireturn, 1) := by decide +kernel
theorem dX4_notCopied_56 : decode cX4_notCopied 56 = .ok (.iload 5, 2) := by decide +kernel
theorem dX4_notCopied_58 : decode cX4_notCopied 58 = .ok (.ifCond .lt 43, 3) := by decide +kernel
theorem dX4_notCopied_61 : decode cX4_notCopied 61 = .ok (.iload_n 2, 1) := by decide +kernel
theorem dX4_notCopied_62 : decode cX4_notCopied 62 = .ok (.ifCond .lt 39, 3) := by decide +kernel
theorem dX4_notCopied_65 : decode cX4_notCopied 65 = .ok (.iload 4, 2) := by decide +kernel
theorem dX4_notCopied_67 : decode cX4_notCopied 67 = .ok (.ifCond .lt 34, 3) := by decide +kernel
theorem dX4_notCopied_70 : decode cX4_notCopied 70 = .ok (.iload 5, 2) := by decide +kernel
theorem dX4_notCopied_72 : decode cX4_notCopied 72 = .ok (.aload_n 0, 1) := by decide +kernel
theorem dX4_notCopied_73 : decode cX4_notCopied 73 = .ok (.getfield 25, 3) := by decide +kernel
theorem dX4_notCopied_76 : decode cX4_notCopied 76 = .ok (.iload_n 1, 1) := by decide +kernel
theorem dX4_notCopied_77 : decode cX4_notCopied 77 = .ok (.iaload, 1) := by decide +kernel
theorem dX4_notCopied_78 : decode cX4_notCopied 78 = .ok (.iload_n 2, 1) := by decide +kernel
theorem dX4_notCopied_79 : decode cX4_notCopied 79 = .ok (.isub, 1) := by decide +kernel
theorem dX4_notCopied_80 : decode cX4_notCopied 80 = .ok (.if_icmp .gt 21, 3) := by decide +kernel
theorem dX4_notCopied_83 : decode cX4_notCopied 83 = .ok (.iload 5, 2) := by decide +kernel
theorem dX4_notCopied_85 : decode cX4_notCopied 85 = .ok (.aload_n 0, 1) := by decide +kernel
theorem dX4_notCopied_86 : decode cX4_notCopied 86 = .ok (.getfield 25, 3) := by decide +kernel
theorem dX4_notCopied_89 : decode cX4_notCopied 89 = .ok (.iload_n 3, 1) := by decide +kernel
theorem dX4_notCopied_90 : decode cX4_notCopied 90 = .ok (.iaload, 1) := by decide +kernel
theorem dX4_notCopied_91 : decode cX4_notCopied 91 = .ok (.iload 4, 2) := by decide +kernel
theorem dX4_notCopied_93 : decode cX4_notCopied 93 = .ok (.isub, 1) := by decide +kernel
theorem dX4_notCopied_94 : decode cX4_notCopied 94 = .ok (.if_icmp .gt 7, 3) := by decide +kernel
theorem dX4_notCopied_97 : decode cX4_notCopied 97 = .ok (.iconst 1, 1) := by decide +kernel
theorem dX4_notCopied_98 : decode cX4_notCopied 98 = .ok (.goto 4, 3) := by decide +kernel
theorem dX4_notCopied_101 : decode cX4_notCopied 101 = .ok (.iconst 0, 1) := by decide +kernel
theorem dX4_notCopied_102 : decode cX4_notCopied 102 = .ok (.istore 6, 2) := by decide +kernel
theorem dX4_notCopied_104 : decode cX4_notCopied 104 = .ok (.iload 6, 2) := by decide +kernel
theorem dX4_notCopied_106 : decode cX4_notCopied 106 = .ok (.ifCond .eq 7, 3) := by decide +kernel
theorem dX4_notCopied_109 : decode cX4_notCopied 109 = .ok (.iconst 0, 1) := by decide +kernel
theorem dX4_notCopied_110 : decode cX4_notCopied 110 = .ok (.goto 5, 3) := by decide +kernel
theorem dX4_notCopied_113 : decode cX4_notCopied 113 = .ok (.ldc 34, 2) := by decide +kernel
theorem dX4_notCopied_115 : decode cX4_notCopied 115 = .ok (.ireturn, 1) := by decide +kernel
theorem dX4_copy_0 : decode cX4_copy 0 = .ok (.aload_n 0, 1) := by decide +kernel
theorem dX4_copy_1 : decode cX4_copy 1 = .ok (.iload_n 1, 1) := by decide +kernel
theorem dX4_copy_2 : decode cX4_copy 2 = .ok (.iload_n 2, 1) := by decide +kernel
theorem dX4_copy_3 : decode cX4_copy 3 = .ok (.iload_n 3, 1) := by decide +kernel
theorem dX4_copy_4 : decode cX4_copy 4 = .ok (.iload 4, 2) := by decide +kernel
theorem dX4_copy_6 : decode cX4_copy 6 = .ok (.iload 5, 2) := by decide +kernel
theorem dX4_copy_8 : decode cX4_copy 8 = .ok (.invokevirtual 245, 3) := by decide +kernel
theorem dX4_copy_11 : decode cX4_copy 11 = .ok (.istore 6, 2) := by decide +kernel
theorem dX4_copy_13 : decode cX4_copy 13 = .ok (.iload 6, 2) := by decide +kernel
theorem dX4_copy_15 : decode cX4_copy 15 = .ok (.ifCond .eq 10, 3) := by decide +kernel
theorem dX4_copy_18 : decode cX4_copy 18 = .ok (.aload_n 0, 1) := by decide +kernel
theorem dX4_copy_19 : decode cX4_copy 19 = .ok (.iload 6, 2) := by decide +kernel
theorem dX4_copy_21 : decode cX4_copy 21 = .ok (.invokevirtual 36, 3) := by decide +kernel
theorem dX4_copy_24 : decode cX4_copy 24 = .ok (.ireturn, 1) := by decide +kernel
theorem dX4_copy_25 : decode cX4_copy 25 = .ok (.iconst 0, 1) := by decide +kernel
theorem dX4_copy_26 : decode cX4_copy 26 = .ok (.istore 7, 2) := by decide +kernel
theorem dX4_copy_28 : decode cX4_copy 28 = .ok (.iload 7, 2) := by decide +kernel
theorem dX4_copy_30 : decode cX4_copy 30 = .ok (.iload 5, 2) := by decide +kernel
theorem dX4_copy_32 : decode cX4_copy 32 = .ok (.if_icmp .ge 58, 3) := by decide +kernel
theorem dX4_copy_35 : decode cX4_copy 35 = .ok (.iload_n 2, 1) := by decide +kernel
theorem dX4_copy_36 : decode cX4_copy 36 = .ok (.iload 4, 2) := by decide +kernel
theorem dX4_copy_38 : decode cX4_copy 38 = .ok (.if_icmp .ge 13, 3) := by decide +kernel
theorem dX4_copy_41 : decode cX4_copy 41 = .ok (.iload 5, 2) := by decide +kernel
theorem dX4_copy_43 : decode cX4_copy 43 = .ok (.iconst 1, 1) := by decide +kernel
theorem dX4_copy_44 : decode cX4_copy 44 = .ok (.isub, 1) := by decide +kernel
theorem dX4_copy_45 : decode cX4_copy 45 = .ok (.iload 7, 2) := by decide +kernel
theorem dX4_copy_47 : decode cX4_copy 47 = .ok (.isub, 1) := by decide +kernel
theorem dX4_copy_48 : decode cX4_copy 48 = .ok (.goto 5, 3) := by decide +kernel
theorem dX4_copy_51 : decode cX4_copy 51 = .ok (.iload 7, 2) := by decide +kernel
theorem dX4_copy_53 : decode cX4_copy 53 = .ok (.istore 8, 2) := by decide +kernel
theorem dX4_copy_55 : decode cX4_copy 55 = .ok (.aload_n 0, 1) := by decide +kernel
theorem dX4_copy_56 : decode cX4_copy 56 = .ok (.getfield 28, 3) := by decide +kernel
theorem dX4_copy_59 : decode cX4_copy 59 = .ok (.bipush 40, 2) := by decide +kernel
theorem dX4_copy_61 : decode cX4_copy 61 = .ok (.iload_n 3, 1) := by decide +kernel
theorem dX4_copy_62 : decode cX4_copy 62 = .ok (.imul, 1) := by decide +kernel
theorem dX4_copy_63 : decode cX4_copy 63 = .ok (.iload 4, 2) := by decide +kernel
theorem dX4_copy_65 : decode cX4_copy 65 = .ok (.iadd, 1) := by decide +kernel
theorem dX4_copy_66 : decode cX4_copy 66 = .ok (.iload 8, 2) := by decide +kernel
theorem dX4_copy_68 : decode cX4_copy 68 = .ok (.iadd, 1) := by decide +kernel
theorem dX4_copy_69 : decode cX4_copy 69 = .ok (.aload_n 0, 1) := by decide +kernel
theorem dX4_copy_70 : decode cX4_copy 70 = .ok (.getfield 28, 3) := by decide +kernel
theorem dX4_copy_73 : decode cX4_copy 73 = .ok (.bipush 40, 2) := by decide +kernel
theorem dX4_copy_75 : decode cX4_copy 75 = .ok (.iload_n 1, 1) := by decide +kernel
theorem dX4_copy_76 : decode cX4_copy 76 = .ok (.imul, 1) := by decide +kernel
theorem dX4_copy_77 : decode cX4_copy 77 = .ok (.iload_n 2, 1) := by decide +kernel
theorem dX4_copy_78 : decode cX4_copy 78 = .ok (.iadd, 1) := by decide +kernel
theorem dX4_copy_79 : decode cX4_copy 79 = .ok (.iload 8, 2) := by decide +kernel
theorem dX4_copy_81 : decode cX4_copy 81 = .ok (.iadd, 1) := by decide +kernel
theorem dX4_copy_82 : decode cX4_copy 82 = .ok (.iaload, 1) := by decide +kernel
theorem dX4_copy_83 : decode cX4_copy 83 = .ok (.iastore, 1) := by decide +kernel
theorem dX4_copy_84 : decode cX4_copy 84 = .ok (.iinc 7 1, 3) := by decide +kernel
theorem dX4_copy_87 : decode cX4_copy 87 = .ok (.goto (-59), 3) := by decide +kernel
theorem dX4_copy_90 : decode cX4_copy 90 = .ok (.iload 5, 2) := by decide +kernel
theorem dX4_copy_92 : decode cX4_copy 92 = .ok (.ireturn, 1) := by decide +kernel
theorem dX4_load_0 : decode cX4_load 0 = .ok (.aload_n 0, 1) := by decide +kernel
theorem dX4_load_1 : decode cX4_load 1 = .ok (.iload_n 1, 1) := by decide +kernel
theorem dX4_load_2 : decode cX4_load 2 = .ok (.invokevirtual 174, 3) := by decide +kernel
theorem dX4_load_5 : decode cX4_load 5 = .ok (.istore_n 2, 1) := by decide +kernel
theorem dX4_load_6 : decode cX4_load 6 = .ok (.iload_n 2, 1) := by decide +kernel
theorem dX4_load_7 : decode cX4_load 7 = .ok (.ifCond .eq 9, 3) := by decide +kernel
theorem dX4_load_10 : decode cX4_load 10 = .ok (.aload_n 0, 1) := by decide +kernel
theorem dX4_load_11 : decode cX4_load 11 = .ok (.iload_n 2, 1) := by decide +kernel
theorem dX4_load_12 : decode cX4_load 12 = .ok (.invokevirtual 36, 3) := by decide +kernel
theorem dX4_load_15 : decode cX4_load 15 = .ok (.ireturn, 1) := by decide +kernel
theorem dX4_load_16 : decode cX4_load 16 = .ok (.iconst 0, 1) := by decide +kernel
theorem dX4_load_17 : decode cX4_load 17 = .ok (.istore_n 3, 1) := by decide +kernel
theorem dX4_load_18 : decode cX4_load 18 = .ok (.iload_n 3, 1) := by decide +kernel
theorem dX4_load_19 : decode cX4_load 19 = .ok (.aload_n 0, 1) := by decide +kernel
theorem dX4_load_20 : decode cX4_load 20 = .ok (.getfield 25, 3) := by decide +kernel
theorem dX4_load_23 : decode cX4_load 23 = .ok (.iload_n 1, 1) := by decide +kernel
theorem dX4_load_24 : decode cX4_load 24 = .ok (.iaload, 1) := by decide +kernel
theorem dX4_load_25 : decode cX4_load 25 = .ok (.if_icmp .ge 56, 3) := by decide +kernel
theorem dX4_load_28 : decode cX4_load 28 = .ok (.iload_n 3, 1) := by decide +kernel
theorem dX4_load_29 : decode cX4_load 29 = .ok (.aload_n 0, 1) := by decide +kernel
theorem dX4_load_30 : decode cX4_load 30 = .ok (.getfield 9, 3) := by decide +kernel
theorem dX4_load_33 : decode cX4_load 33 = .ok (.iconst 3, 1) := by decide +kernel
theorem dX4_load_34 : decode cX4_load 34 = .ok (.iaload, 1) := by decide +kernel
theorem dX4_load_35 : decode cX4_load 35 = .ok (.if_icmp .ge 46, 3) := by decide +kernel
theorem dX4_load_38 : decode cX4_load 38 = .ok (.aload_n 0, 1) := by decide +kernel
theorem dX4_load_39 : decode cX4_load 39 = .ok (.getfield 28, 3) := by decide +kernel
theorem dX4_load_42 : decode cX4_load 42 = .ok (.bipush 40, 2) := by decide +kernel
theorem dX4_load_44 : decode cX4_load 44 = .ok (.iload_n 1, 1) := by decide +kernel
theorem dX4_load_45 : decode cX4_load 45 = .ok (.imul, 1) := by decide +kernel
theorem dX4_load_46 : decode cX4_load 46 = .ok (.iload_n 3, 1) := by decide +kernel
theorem dX4_load_47 : decode cX4_load 47 = .ok (.iadd, 1) := by decide +kernel
theorem dX4_load_48 : decode cX4_load 48 = .ok (.iaload, 1) := by decide +kernel
theorem dX4_load_49 : decode cX4_load 49 = .ok (.iconst 0, 1) := by decide +kernel
theorem dX4_load_50 : decode cX4_load 50 = .ok (.bipush 99, 2) := by decide +kernel
theorem dX4_load_52 : decode cX4_load 52 = .ok (.invokestatic 40, 3) := by decide +kernel
theorem dX4_load_55 : decode cX4_load 55 = .ok (.ifCond .eq 26, 3) := by decide +kernel
theorem dX4_load_58 : decode cX4_load 58 = .ok (.aload_n 0, 1) := by decide +kernel
theorem dX4_load_59 : decode cX4_load 59 = .ok (.iload_n 3, 1) := by decide +kernel
theorem dX4_load_60 : decode cX4_load 60 = .ok (.iconst 0, 1) := by decide +kernel
theorem dX4_load_61 : decode cX4_load 61 = .ok (.aload_n 0, 1) := by decide +kernel
theorem dX4_load_62 : decode cX4_load 62 = .ok (.getfield 28, 3) := by decide +kernel
theorem dX4_load_65 : decode cX4_load 65 = .ok (.bipush 40, 2) := by decide +kernel
theorem dX4_load_67 : decode cX4_load 67 = .ok (.iload_n 1, 1) := by decide +kernel
theorem dX4_load_68 : decode cX4_load 68 = .ok (.imul, 1) := by decide +kernel
theorem dX4_load_69 : decode cX4_load 69 = .ok (.iload_n 3, 1) := by decide +kernel
theorem dX4_load_70 : decode cX4_load 70 = .ok (.iadd, 1) := by decide +kernel
theorem dX4_load_71 : decode cX4_load 71 = .ok (.iaload, 1) := by decide +kernel
theorem dX4_load_72 : decode cX4_load 72 = .ok (.invokevirtual 74, 3) := by decide +kernel
theorem dX4_load_75 : decode cX4_load 75 = .ok (.iinc 3 1, 3) := by decide +kernel
theorem dX4_load_78 : decode cX4_load 78 = .ok (.goto (-60), 3) := by decide +kernel
theorem dX4_load_81 : decode cX4_load 81 = .ok (.iload_n 3, 1) := by decide +kernel
theorem dX4_load_82 : decode cX4_load 82 = .ok (.ireturn, 1) := by decide +kernel
theorem dX4_judge_0 : decode cX4_judge 0 = .ok (.aload_n 0, 1) := by decide +kernel
theorem dX4_judge_1 : decode cX4_judge 1 = .ok (.iload_n 1, 1) := by decide +kernel
theorem dX4_judge_2 : decode cX4_judge 2 = .ok (.invokevirtual 174, 3) := by decide +kernel
theorem dX4_judge_5 : decode cX4_judge 5 = .ok (.istore_n 2, 1) := by decide +kernel
theorem dX4_judge_6 : decode cX4_judge 6 = .ok (.iload_n 2, 1) := by decide +kernel
theorem dX4_judge_7 : decode cX4_judge 7 = .ok (.ifCond .eq 9, 3) := by decide +kernel
theorem dX4_judge_10 : decode cX4_judge 10 = .ok (.aload_n 0, 1) := by decide +kernel
theorem dX4_judge_11 : decode cX4_judge 11 = .ok (.iload_n 2, 1) := by decide +kernel
theorem dX4_judge_12 : decode cX4_judge 12 = .ok (.invokevirtual 36, 3) := by decide +kernel
theorem dX4_judge_15 : decode cX4_judge 15 = .ok (.ireturn, 1) := by decide +kernel
theorem dX4_judge_16 : decode cX4_judge 16 = .ok (.iconst 0, 1) := by decide +kernel
theorem dX4_judge_17 : decode cX4_judge 17 = .ok (.istore_n 3, 1) := by decide +kernel
theorem dX4_judge_18 : decode cX4_judge 18 = .ok (.iload_n 3, 1) := by decide +kernel
theorem dX4_judge_19 : decode cX4_judge 19 = .ok (.aload_n 0, 1) := by decide +kernel
theorem dX4_judge_20 : decode cX4_judge 20 = .ok (.getfield 25, 3) := by decide +kernel
theorem dX4_judge_23 : decode cX4_judge 23 = .ok (.iload_n 1, 1) := by decide +kernel
theorem dX4_judge_24 : decode cX4_judge 24 = .ok (.iaload, 1) := by decide +kernel
theorem dX4_judge_25 : decode cX4_judge 25 = .ok (.if_icmp .ge 41, 3) := by decide +kernel
theorem dX4_judge_28 : decode cX4_judge 28 = .ok (.aload_n 0, 1) := by decide +kernel
theorem dX4_judge_29 : decode cX4_judge 29 = .ok (.iload_n 3, 1) := by decide +kernel
theorem dX4_judge_30 : decode cX4_judge 30 = .ok (.invokevirtual 86, 3) := by decide +kernel
theorem dX4_judge_33 : decode cX4_judge 33 = .ok (.ifCond .eq 23, 3) := by decide +kernel
theorem dX4_judge_36 : decode cX4_judge 36 = .ok (.aload_n 0, 1) := by decide +kernel
theorem dX4_judge_37 : decode cX4_judge 37 = .ok (.getfield 28, 3) := by decide +kernel
theorem dX4_judge_40 : decode cX4_judge 40 = .ok (.bipush 40, 2) := by decide +kernel
theorem dX4_judge_42 : decode cX4_judge 42 = .ok (.iload_n 1, 1) := by decide +kernel
theorem dX4_judge_43 : decode cX4_judge 43 = .ok (.imul, 1) := by decide +kernel
theorem dX4_judge_44 : decode cX4_judge 44 = .ok (.iload_n 3, 1) := by decide +kernel
theorem dX4_judge_45 : decode cX4_judge 45 = .ok (.iadd, 1) := by decide +kernel
theorem dX4_judge_46 : decode cX4_judge 46 = .ok (.iaload, 1) := by decide +kernel
theorem dX4_judge_47 : decode cX4_judge 47 = .ok (.aload_n 0, 1) := by decide +kernel
theorem dX4_judge_48 : decode cX4_judge 48 = .ok (.iload_n 3, 1) := by decide +kernel
theorem dX4_judge_49 : decode cX4_judge 49 = .ok (.iconst 1, 1) := by decide +kernel
theorem dX4_judge_50 : decode cX4_judge 50 = .ok (.invokevirtual 44, 3) := by decide +kernel
theorem dX4_judge_53 : decode cX4_judge 53 = .ok (.if_icmp .eq 7, 3) := by decide +kernel
theorem dX4_judge_56 : decode cX4_judge 56 = .ok (.iconst 1, 1) := by decide +kernel
theorem dX4_judge_57 : decode cX4_judge 57 = .ok (.iload_n 3, 1) := by decide +kernel
theorem dX4_judge_58 : decode cX4_judge 58 = .ok (.iadd, 1) := by decide +kernel
theorem dX4_judge_59 : decode cX4_judge 59 = .ok (.ireturn, 1) := by decide +kernel
theorem dX4_judge_60 : decode cX4_judge 60 = .ok (.iinc 3 1, 3) := by decide +kernel
theorem dX4_judge_63 : decode cX4_judge 63 = .ok (.goto (-45), 3) := by decide +kernel
theorem dX4_judge_66 : decode cX4_judge 66 = .ok (.iconst 0, 1) := by decide +kernel
theorem dX4_judge_67 : decode cX4_judge 67 = .ok (.ireturn, 1) := by decide +kernel
theorem dX4_image_0 : decode cX4_image 0 = .ok (.aload_n 0, 1) := by decide +kernel
theorem dX4_image_1 : decode cX4_image 1 = .ok (.getfield 9, 3) := by decide +kernel
theorem dX4_image_4 : decode cX4_image 4 = .ok (.aload_n 0, 1) := by decide +kernel
theorem dX4_image_5 : decode cX4_image 5 = .ok (.getfield 13, 3) := by decide +kernel
theorem dX4_image_8 : decode cX4_image 8 = .ok (.invokestatic 140, 3) := by decide +kernel
theorem dX4_image_11 : decode cX4_image 11 = .ok (.aload_n 0, 1) := by decide +kernel
theorem dX4_image_12 : decode cX4_image 12 = .ok (.iconst 1, 1) := by decide +kernel
theorem dX4_image_13 : decode cX4_image 13 = .ok (.putfield 249, 3) := by decide +kernel
theorem dX4_image_16 : decode cX4_image 16 = .ok (.iconst 1, 1) := by decide +kernel
theorem dX4_image_17 : decode cX4_image 17 = .ok (.ireturn, 1) := by decide +kernel
theorem dX4_undo_0 : decode cX4_undo 0 = .ok (.aload_n 0, 1) := by decide +kernel
theorem dX4_undo_1 : decode cX4_undo 1 = .ok (.getfield 249, 3) := by decide +kernel
theorem dX4_undo_4 : decode cX4_undo 4 = .ok (.ifCond .ne 10, 3) := by decide +kernel
theorem dX4_undo_7 : decode cX4_undo 7 = .ok (.aload_n 0, 1) := by decide +kernel
theorem dX4_undo_8 : decode cX4_undo 8 = .ok (.ldc 35, 2) := by decide +kernel
theorem dX4_undo_10 : decode cX4_undo 10 = .ok (.invokevirtual 36, 3) := by decide +kernel
theorem dX4_undo_13 : decode cX4_undo 13 = .ok (.ireturn, 1) := by decide +kernel
theorem dX4_undo_14 : decode cX4_undo 14 = .ok (.aload_n 0, 1) := by decide +kernel
theorem dX4_undo_15 : decode cX4_undo 15 = .ok (.getfield 13, 3) := by decide +kernel
theorem dX4_undo_18 : decode cX4_undo 18 = .ok (.aload_n 0, 1) := by decide +kernel
theorem dX4_undo_19 : decode cX4_undo 19 = .ok (.getfield 9, 3) := by decide +kernel
theorem dX4_undo_22 : decode cX4_undo 22 = .ok (.invokestatic 140, 3) := by decide +kernel
theorem dX4_undo_25 : decode cX4_undo 25 = .ok (.aload_n 0, 1) := by decide +kernel
theorem dX4_undo_26 : decode cX4_undo 26 = .ok (.getfield 9, 3) := by decide +kernel
theorem dX4_undo_29 : decode cX4_undo 29 = .ok (.iconst 0, 1) := by decide +kernel
theorem dX4_undo_30 : decode cX4_undo 30 = .ok (.iaload, 1) := by decide +kernel
theorem dX4_undo_31 : decode cX4_undo 31 = .ok (.ireturn, 1) := by decide +kernel
theorem dX4_tear_0 : decode cX4_tear 0 = .ok (.aload_n 0, 1) := by decide +kernel
theorem dX4_tear_1 : decode cX4_tear 1 = .ok (.getfield 249, 3) := by decide +kernel
theorem dX4_tear_4 : decode cX4_tear 4 = .ok (.ifCond .eq 7, 3) := by decide +kernel
theorem dX4_tear_7 : decode cX4_tear 7 = .ok (.iconst 1, 1) := by decide +kernel
theorem dX4_tear_8 : decode cX4_tear 8 = .ok (.goto 4, 3) := by decide +kernel
theorem dX4_tear_11 : decode cX4_tear 11 = .ok (.iconst 0, 1) := by decide +kernel
theorem dX4_tear_12 : decode cX4_tear 12 = .ok (.istore_n 1, 1) := by decide +kernel
theorem dX4_tear_13 : decode cX4_tear 13 = .ok (.aload_n 0, 1) := by decide +kernel
theorem dX4_tear_14 : decode cX4_tear 14 = .ok (.iconst 0, 1) := by decide +kernel
theorem dX4_tear_15 : decode cX4_tear 15 = .ok (.putfield 249, 3) := by decide +kernel
theorem dX4_tear_18 : decode cX4_tear 18 = .ok (.iload_n 1, 1) := by decide +kernel
theorem dX4_tear_19 : decode cX4_tear 19 = .ok (.ireturn, 1) := by decide +kernel
theorem dX4_manyHeld_0 : decode cX4_manyHeld 0 = .ok (.iconst 0, 1) := by decide +kernel
theorem dX4_manyHeld_1 : decode cX4_manyHeld 1 = .ok (.istore_n 1, 1) := by decide +kernel
theorem dX4_manyHeld_2 : decode cX4_manyHeld 2 = .ok (.bipush 88, 2) := by decide +kernel
theorem dX4_manyHeld_4 : decode cX4_manyHeld 4 = .ok (.istore_n 2, 1) := by decide +kernel
theorem dX4_manyHeld_5 : decode cX4_manyHeld 5 = .ok (.iload_n 2, 1) := by decide +kernel
theorem dX4_manyHeld_6 : decode cX4_manyHeld 6 = .ok (.bipush 98, 2) := by decide +kernel
theorem dX4_manyHeld_8 : decode cX4_manyHeld 8 = .ok (.if_icmp .ge 26, 3) := by decide +kernel
theorem dX4_manyHeld_11 : decode cX4_manyHeld 11 = .ok (.iload_n 1, 1) := by decide +kernel
theorem dX4_manyHeld_12 : decode cX4_manyHeld 12 = .ok (.aload_n 0, 1) := by decide +kernel
theorem dX4_manyHeld_13 : decode cX4_manyHeld 13 = .ok (.getfield 9, 3) := by decide +kernel
theorem dX4_manyHeld_16 : decode cX4_manyHeld 16 = .ok (.iload_n 2, 1) := by decide +kernel
theorem dX4_manyHeld_17 : decode cX4_manyHeld 17 = .ok (.iaload, 1) := by decide +kernel
theorem dX4_manyHeld_18 : decode cX4_manyHeld 18 = .ok (.ifCond .lt 7, 3) := by decide +kernel
theorem dX4_manyHeld_21 : decode cX4_manyHeld 21 = .ok (.iconst 1, 1) := by decide +kernel
theorem dX4_manyHeld_22 : decode cX4_manyHeld 22 = .ok (.goto 4, 3) := by decide +kernel
theorem dX4_manyHeld_25 : decode cX4_manyHeld 25 = .ok (.iconst 0, 1) := by decide +kernel
theorem dX4_manyHeld_26 : decode cX4_manyHeld 26 = .ok (.iadd, 1) := by decide +kernel
theorem dX4_manyHeld_27 : decode cX4_manyHeld 27 = .ok (.istore_n 1, 1) := by decide +kernel
theorem dX4_manyHeld_28 : decode cX4_manyHeld 28 = .ok (.iinc 2 1, 3) := by decide +kernel
theorem dX4_manyHeld_31 : decode cX4_manyHeld 31 = .ok (.goto (-26), 3) := by decide +kernel
theorem dX4_manyHeld_34 : decode cX4_manyHeld 34 = .ok (.iload_n 1, 1) := by decide +kernel
theorem dX4_manyHeld_35 : decode cX4_manyHeld 35 = .ok (.ireturn, 1) := by decide +kernel
theorem dX4_count_0 : decode cX4_count 0 = .ok (.iload_n 1, 1) := by decide +kernel
theorem dX4_count_1 : decode cX4_count 1 = .ok (.tableswitch 95 0 7 #[47, 54, 61, 68, 73, 78, 83, 90], 47) := by decide +kernel
theorem dX4_count_48 : decode cX4_count 48 = .ok (.aload_n 0, 1) := by decide +kernel
theorem dX4_count_49 : decode cX4_count 49 = .ok (.getfield 9, 3) := by decide +kernel
theorem dX4_count_52 : decode cX4_count 52 = .ok (.iconst 0, 1) := by decide +kernel
theorem dX4_count_53 : decode cX4_count 53 = .ok (.iaload, 1) := by decide +kernel
theorem dX4_count_54 : decode cX4_count 54 = .ok (.ireturn, 1) := by decide +kernel
theorem dX4_count_55 : decode cX4_count 55 = .ok (.aload_n 0, 1) := by decide +kernel
theorem dX4_count_56 : decode cX4_count 56 = .ok (.getfield 9, 3) := by decide +kernel
theorem dX4_count_59 : decode cX4_count 59 = .ok (.iconst 2, 1) := by decide +kernel
theorem dX4_count_60 : decode cX4_count 60 = .ok (.iaload, 1) := by decide +kernel
theorem dX4_count_61 : decode cX4_count 61 = .ok (.ireturn, 1) := by decide +kernel
theorem dX4_count_62 : decode cX4_count 62 = .ok (.aload_n 0, 1) := by decide +kernel
theorem dX4_count_63 : decode cX4_count 63 = .ok (.getfield 9, 3) := by decide +kernel
theorem dX4_count_66 : decode cX4_count 66 = .ok (.iconst 3, 1) := by decide +kernel
theorem dX4_count_67 : decode cX4_count 67 = .ok (.iaload, 1) := by decide +kernel
theorem dX4_count_68 : decode cX4_count 68 = .ok (.ireturn, 1) := by decide +kernel
theorem dX4_count_69 : decode cX4_count 69 = .ok (.aload_n 0, 1) := by decide +kernel
theorem dX4_count_70 : decode cX4_count 70 = .ok (.invokevirtual 118, 3) := by decide +kernel
theorem dX4_count_73 : decode cX4_count 73 = .ok (.ireturn, 1) := by decide +kernel
theorem dX4_count_74 : decode cX4_count 74 = .ok (.aload_n 0, 1) := by decide +kernel
theorem dX4_count_75 : decode cX4_count 75 = .ok (.invokevirtual 128, 3) := by decide +kernel
theorem dX4_count_78 : decode cX4_count 78 = .ok (.ireturn, 1) := by decide +kernel
theorem dX4_count_79 : decode cX4_count 79 = .ok (.aload_n 0, 1) := by decide +kernel
theorem dX4_count_80 : decode cX4_count 80 = .ok (.getfield 184, 3) := by decide +kernel
theorem dX4_count_83 : decode cX4_count 83 = .ok (.ireturn, 1) := by decide +kernel
theorem dX4_count_84 : decode cX4_count 84 = .ok (.aload_n 0, 1) := by decide +kernel
theorem dX4_count_85 : decode cX4_count 85 = .ok (.getfield 9, 3) := by decide +kernel
theorem dX4_count_88 : decode cX4_count 88 = .ok (.iconst 1, 1) := by decide +kernel
theorem dX4_count_89 : decode cX4_count 89 = .ok (.iaload, 1) := by decide +kernel
theorem dX4_count_90 : decode cX4_count 90 = .ok (.ireturn, 1) := by decide +kernel
theorem dX4_count_91 : decode cX4_count 91 = .ok (.aload_n 0, 1) := by decide +kernel
theorem dX4_count_92 : decode cX4_count 92 = .ok (.invokevirtual 252, 3) := by decide +kernel
theorem dX4_count_95 : decode cX4_count 95 = .ok (.ireturn, 1) := by decide +kernel
theorem dX4_count_96 : decode cX4_count 96 = .ok (.aload_n 0, 1) := by decide +kernel
theorem dX4_count_97 : decode cX4_count 97 = .ok (.ldc 34, 2) := by decide +kernel
theorem dX4_count_99 : decode cX4_count 99 = .ok (.invokevirtual 36, 3) := by decide +kernel
theorem dX4_count_102 : decode cX4_count 102 = .ok (.ireturn, 1) := by decide +kernel
theorem dX4_status_0 : decode cX4_status 0 = .ok (.iload_n 1, 1) := by decide +kernel
theorem dX4_status_1 : decode cX4_status 1 = .ok (.iconst (-1), 1) := by decide +kernel
theorem dX4_status_2 : decode cX4_status 2 = .ok (.bipush 6, 2) := by decide +kernel
theorem dX4_status_4 : decode cX4_status 4 = .ok (.invokestatic 40, 3) := by decide +kernel
theorem dX4_status_7 : decode cX4_status 7 = .ok (.ifCond .ne 10, 3) := by decide +kernel
theorem dX4_status_10 : decode cX4_status 10 = .ok (.aload_n 0, 1) := by decide +kernel
theorem dX4_status_11 : decode cX4_status 11 = .ok (.ldc 34, 2) := by decide +kernel
theorem dX4_status_13 : decode cX4_status 13 = .ok (.invokevirtual 36, 3) := by decide +kernel
theorem dX4_status_16 : decode cX4_status 16 = .ok (.ireturn, 1) := by decide +kernel
theorem dX4_status_17 : decode cX4_status 17 = .ok (.iconst 0, 1) := by decide +kernel
theorem dX4_status_18 : decode cX4_status 18 = .ok (.istore_n 2, 1) := by decide +kernel
theorem dX4_status_19 : decode cX4_status 19 = .ok (.iconst 0, 1) := by decide +kernel
theorem dX4_status_20 : decode cX4_status 20 = .ok (.istore_n 3, 1) := by decide +kernel
theorem dX4_status_21 : decode cX4_status 21 = .ok (.iload_n 3, 1) := by decide +kernel
theorem dX4_status_22 : decode cX4_status 22 = .ok (.bipush 7, 2) := by decide +kernel
theorem dX4_status_24 : decode cX4_status 24 = .ok (.if_icmp .ge 31, 3) := by decide +kernel
theorem dX4_status_27 : decode cX4_status 27 = .ok (.iload_n 2, 1) := by decide +kernel
theorem dX4_status_28 : decode cX4_status 28 = .ok (.iload_n 1, 1) := by decide +kernel
theorem dX4_status_29 : decode cX4_status 29 = .ok (.ifCond .lt 8, 3) := by decide +kernel
theorem dX4_status_32 : decode cX4_status 32 = .ok (.iload_n 1, 1) := by decide +kernel
theorem dX4_status_33 : decode cX4_status 33 = .ok (.iload_n 3, 1) := by decide +kernel
theorem dX4_status_34 : decode cX4_status 34 = .ok (.if_icmp .ne 12, 3) := by decide +kernel
theorem dX4_status_37 : decode cX4_status 37 = .ok (.aload_n 0, 1) := by decide +kernel
theorem dX4_status_38 : decode cX4_status 38 = .ok (.getfield 19, 3) := by decide +kernel
theorem dX4_status_41 : decode cX4_status 41 = .ok (.iload_n 3, 1) := by decide +kernel
theorem dX4_status_42 : decode cX4_status 42 = .ok (.iaload, 1) := by decide +kernel
theorem dX4_status_43 : decode cX4_status 43 = .ok (.goto 4, 3) := by decide +kernel
theorem dX4_status_46 : decode cX4_status 46 = .ok (.iconst 0, 1) := by decide +kernel
theorem dX4_status_47 : decode cX4_status 47 = .ok (.iadd, 1) := by decide +kernel
theorem dX4_status_48 : decode cX4_status 48 = .ok (.istore_n 2, 1) := by decide +kernel
theorem dX4_status_49 : decode cX4_status 49 = .ok (.iinc 3 1, 3) := by decide +kernel
theorem dX4_status_52 : decode cX4_status 52 = .ok (.goto (-31), 3) := by decide +kernel
theorem dX4_status_55 : decode cX4_status 55 = .ok (.iload_n 2, 1) := by decide +kernel
theorem dX4_status_56 : decode cX4_status 56 = .ok (.ireturn, 1) := by decide +kernel
