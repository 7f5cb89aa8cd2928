theorem dX0_init_0 : decode cX0_init 0 = .ok (.aload_n 0, 1) := by decide +kernel
theorem dX0_init_1 : decode cX0_init 1 = .ok (.invokespecial 3, 3) := by decide +kernel
theorem dX0_init_4 : decode cX0_init 4 = .ok (.aload_n 0, 1) := by decide +kernel
theorem dX0_init_5 : decode cX0_init 5 = .ok (.bipush 6, 2) := by decide +kernel
theorem dX0_init_7 : decode cX0_init 7 = .ok (.newarray .int, 2) := by decide +kernel
theorem dX0_init_9 : decode cX0_init 9 = .ok (.putfield 11, 3) := by decide +kernel
theorem dX0_init_12 : decode cX0_init 12 = .ok (.aload_n 0, 1) := by decide +kernel
theorem dX0_init_13 : decode cX0_init 13 = .ok (.bipush 48, 2) := by decide +kernel
theorem dX0_init_15 : decode cX0_init 15 = .ok (.newarray .int, 2) := by decide +kernel
theorem dX0_init_17 : decode cX0_init 17 = .ok (.putfield 15, 3) := by decide +kernel
theorem dX0_init_20 : decode cX0_init 20 = .ok (.aload_n 0, 1) := by decide +kernel
theorem dX0_init_21 : decode cX0_init 21 = .ok (.bipush 30, 2) := by decide +kernel
theorem dX0_init_23 : decode cX0_init 23 = .ok (.newarray .int, 2) := by decide +kernel
theorem dX0_init_25 : decode cX0_init 25 = .ok (.putfield 18, 3) := by decide +kernel
theorem dX0_init_28 : decode cX0_init 28 = .ok (.aload_n 0, 1) := by decide +kernel
theorem dX0_init_29 : decode cX0_init 29 = .ok (.bipush 10, 2) := by decide +kernel
theorem dX0_init_31 : decode cX0_init 31 = .ok (.newarray .int, 2) := by decide +kernel
theorem dX0_init_33 : decode cX0_init 33 = .ok (.putfield 21, 3) := by decide +kernel
theorem dX0_init_36 : decode cX0_init 36 = .ok (.iconst 0, 1) := by decide +kernel
theorem dX0_init_37 : decode cX0_init 37 = .ok (.istore_n 1, 1) := by decide +kernel
theorem dX0_init_38 : decode cX0_init 38 = .ok (.iload_n 1, 1) := by decide +kernel
theorem dX0_init_39 : decode cX0_init 39 = .ok (.bipush 10, 2) := by decide +kernel
theorem dX0_init_41 : decode cX0_init 41 = .ok (.if_icmp .ge 16, 3) := by decide +kernel
theorem dX0_init_44 : decode cX0_init 44 = .ok (.aload_n 0, 1) := by decide +kernel
theorem dX0_init_45 : decode cX0_init 45 = .ok (.getfield 21, 3) := by decide +kernel
theorem dX0_init_48 : decode cX0_init 48 = .ok (.iload_n 1, 1) := by decide +kernel
theorem dX0_init_49 : decode cX0_init 49 = .ok (.iconst (-1), 1) := by decide +kernel
theorem dX0_init_50 : decode cX0_init 50 = .ok (.iastore, 1) := by decide +kernel
theorem dX0_init_51 : decode cX0_init 51 = .ok (.iinc 1 1, 3) := by decide +kernel
theorem dX0_init_54 : decode cX0_init 54 = .ok (.goto (-16), 3) := by decide +kernel
theorem dX0_init_57 : decode cX0_init 57 = .ok (.aload_n 0, 1) := by decide +kernel
theorem dX0_init_58 : decode cX0_init 58 = .ok (.iconst 1, 1) := by decide +kernel
theorem dX0_init_59 : decode cX0_init 59 = .ok (.putfield 24, 3) := by decide +kernel
theorem dX0_init_62 : decode cX0_init 62 = .ok (.return_, 1) := by decide +kernel
theorem dX0_become_0 : decode cX0_become 0 = .ok (.aload_n 1, 1) := by decide +kernel
theorem dX0_become_1 : decode cX0_become 1 = .ok (.getfield 11, 3) := by decide +kernel
theorem dX0_become_4 : decode cX0_become 4 = .ok (.iconst 0, 1) := by decide +kernel
theorem dX0_become_5 : decode cX0_become 5 = .ok (.aload_n 0, 1) := by decide +kernel
theorem dX0_become_6 : decode cX0_become 6 = .ok (.getfield 11, 3) := by decide +kernel
theorem dX0_become_9 : decode cX0_become 9 = .ok (.iconst 0, 1) := by decide +kernel
theorem dX0_become_10 : decode cX0_become 10 = .ok (.bipush 6, 2) := by decide +kernel
theorem dX0_become_12 : decode cX0_become 12 = .ok (.invokestatic 28, 3) := by decide +kernel
theorem dX0_become_15 : decode cX0_become 15 = .ok (.aload_n 1, 1) := by decide +kernel
theorem dX0_become_16 : decode cX0_become 16 = .ok (.getfield 15, 3) := by decide +kernel
theorem dX0_become_19 : decode cX0_become 19 = .ok (.iconst 0, 1) := by decide +kernel
theorem dX0_become_20 : decode cX0_become 20 = .ok (.aload_n 0, 1) := by decide +kernel
theorem dX0_become_21 : decode cX0_become 21 = .ok (.getfield 15, 3) := by decide +kernel
theorem dX0_become_24 : decode cX0_become 24 = .ok (.iconst 0, 1) := by decide +kernel
theorem dX0_become_25 : decode cX0_become 25 = .ok (.bipush 48, 2) := by decide +kernel
theorem dX0_become_27 : decode cX0_become 27 = .ok (.invokestatic 28, 3) := by decide +kernel
theorem dX0_become_30 : decode cX0_become 30 = .ok (.aload_n 1, 1) := by decide +kernel
theorem dX0_become_31 : decode cX0_become 31 = .ok (.getfield 18, 3) := by decide +kernel
theorem dX0_become_34 : decode cX0_become 34 = .ok (.iconst 0, 1) := by decide +kernel
theorem dX0_become_35 : decode cX0_become 35 = .ok (.aload_n 0, 1) := by decide +kernel
theorem dX0_become_36 : decode cX0_become 36 = .ok (.getfield 18, 3) := by decide +kernel
theorem dX0_become_39 : decode cX0_become 39 = .ok (.iconst 0, 1) := by decide +kernel
theorem dX0_become_40 : decode cX0_become 40 = .ok (.bipush 30, 2) := by decide +kernel
theorem dX0_become_42 : decode cX0_become 42 = .ok (.invokestatic 28, 3) := by decide +kernel
theorem dX0_become_45 : decode cX0_become 45 = .ok (.aload_n 1, 1) := by decide +kernel
theorem dX0_become_46 : decode cX0_become 46 = .ok (.getfield 21, 3) := by decide +kernel
theorem dX0_become_49 : decode cX0_become 49 = .ok (.iconst 0, 1) := by decide +kernel
theorem dX0_become_50 : decode cX0_become 50 = .ok (.aload_n 0, 1) := by decide +kernel
theorem dX0_become_51 : decode cX0_become 51 = .ok (.getfield 21, 3) := by decide +kernel
theorem dX0_become_54 : decode cX0_become 54 = .ok (.iconst 0, 1) := by decide +kernel
theorem dX0_become_55 : decode cX0_become 55 = .ok (.bipush 10, 2) := by decide +kernel
theorem dX0_become_57 : decode cX0_become 57 = .ok (.invokestatic 28, 3) := by decide +kernel
theorem dX0_become_60 : decode cX0_become 60 = .ok (.aload_n 0, 1) := by decide +kernel
theorem dX0_become_61 : decode cX0_become 61 = .ok (.aload_n 1, 1) := by decide +kernel
theorem dX0_become_62 : decode cX0_become 62 = .ok (.getfield 34, 3) := by decide +kernel
theorem dX0_become_65 : decode cX0_become 65 = .ok (.putfield 34, 3) := by decide +kernel
theorem dX0_become_68 : decode cX0_become 68 = .ok (.aload_n 0, 1) := by decide +kernel
theorem dX0_become_69 : decode cX0_become 69 = .ok (.aload_n 1, 1) := by decide +kernel
theorem dX0_become_70 : decode cX0_become 70 = .ok (.getfield 37, 3) := by decide +kernel
theorem dX0_become_73 : decode cX0_become 73 = .ok (.putfield 37, 3) := by decide +kernel
theorem dX0_become_76 : decode cX0_become 76 = .ok (.aload_n 0, 1) := by decide +kernel
theorem dX0_become_77 : decode cX0_become 77 = .ok (.aload_n 1, 1) := by decide +kernel
theorem dX0_become_78 : decode cX0_become 78 = .ok (.getfield 40, 3) := by decide +kernel
theorem dX0_become_81 : decode cX0_become 81 = .ok (.putfield 40, 3) := by decide +kernel
theorem dX0_become_84 : decode cX0_become 84 = .ok (.aload_n 0, 1) := by decide +kernel
theorem dX0_become_85 : decode cX0_become 85 = .ok (.aload_n 1, 1) := by decide +kernel
theorem dX0_become_86 : decode cX0_become 86 = .ok (.getfield 24, 3) := by decide +kernel
theorem dX0_become_89 : decode cX0_become 89 = .ok (.putfield 24, 3) := by decide +kernel
theorem dX0_become_92 : decode cX0_become 92 = .ok (.return_, 1) := by decide +kernel
theorem dX0_isDish_0 : decode cX0_isDish 0 = .ok (.iload_n 1, 1) := by decide +kernel
theorem dX0_isDish_1 : decode cX0_isDish 1 = .ok (.ifCond .lt 15, 3) := by decide +kernel
theorem dX0_isDish_4 : decode cX0_isDish 4 = .ok (.iload_n 1, 1) := by decide +kernel
theorem dX0_isDish_5 : decode cX0_isDish 5 = .ok (.aload_n 0, 1) := by decide +kernel
theorem dX0_isDish_6 : decode cX0_isDish 6 = .ok (.getfield 34, 3) := by decide +kernel
theorem dX0_isDish_9 : decode cX0_isDish 9 = .ok (.if_icmp .ge 7, 3) := by decide +kernel
theorem dX0_isDish_12 : decode cX0_isDish 12 = .ok (.iconst 1, 1) := by decide +kernel
theorem dX0_isDish_13 : decode cX0_isDish 13 = .ok (.goto 4, 3) := by decide +kernel
theorem dX0_isDish_16 : decode cX0_isDish 16 = .ok (.iconst 0, 1) := by decide +kernel
theorem dX0_isDish_17 : decode cX0_isDish 17 = .ok (.ireturn, 1) := by decide +kernel
theorem dX0_isGuest_0 : decode cX0_isGuest 0 = .ok (.iload_n 1, 1) := by decide +kernel
theorem dX0_isGuest_1 : decode cX0_isGuest 1 = .ok (.ifCond .lt 15, 3) := by decide +kernel
theorem dX0_isGuest_4 : decode cX0_isGuest 4 = .ok (.iload_n 1, 1) := by decide +kernel
theorem dX0_isGuest_5 : decode cX0_isGuest 5 = .ok (.aload_n 0, 1) := by decide +kernel
theorem dX0_isGuest_6 : decode cX0_isGuest 6 = .ok (.getfield 37, 3) := by decide +kernel
theorem dX0_isGuest_9 : decode cX0_isGuest 9 = .ok (.if_icmp .ge 7, 3) := by decide +kernel
theorem dX0_isGuest_12 : decode cX0_isGuest 12 = .ok (.iconst 1, 1) := by decide +kernel
theorem dX0_isGuest_13 : decode cX0_isGuest 13 = .ok (.goto 4, 3) := by decide +kernel
theorem dX0_isGuest_16 : decode cX0_isGuest 16 = .ok (.iconst 0, 1) := by decide +kernel
theorem dX0_isGuest_17 : decode cX0_isGuest 17 = .ok (.ireturn, 1) := by decide +kernel
theorem dX0_dishFact_0 : decode cX0_dishFact 0 = .ok (.aload_n 0, 1) := by decide +kernel
theorem dX0_dishFact_1 : decode cX0_dishFact 1 = .ok (.getfield 15, 3) := by decide +kernel
theorem dX0_dishFact_4 : decode cX0_dishFact 4 = .ok (.iload_n 1, 1) := by decide +kernel
theorem dX0_dishFact_5 : decode cX0_dishFact 5 = .ok (.bipush 6, 2) := by decide +kernel
theorem dX0_dishFact_7 : decode cX0_dishFact 7 = .ok (.imul, 1) := by decide +kernel
theorem dX0_dishFact_8 : decode cX0_dishFact 8 = .ok (.iload_n 2, 1) := by decide +kernel
theorem dX0_dishFact_9 : decode cX0_dishFact 9 = .ok (.iadd, 1) := by decide +kernel
theorem dX0_dishFact_10 : decode cX0_dishFact 10 = .ok (.iaload, 1) := by decide +kernel
theorem dX0_dishFact_11 : decode cX0_dishFact 11 = .ok (.ireturn, 1) := by decide +kernel
theorem dX0_putDishFact_0 : decode cX0_putDishFact 0 = .ok (.aload_n 0, 1) := by decide +kernel
theorem dX0_putDishFact_1 : decode cX0_putDishFact 1 = .ok (.getfield 15, 3) := by decide +kernel
theorem dX0_putDishFact_4 : decode cX0_putDishFact 4 = .ok (.iload_n 1, 1) := by decide +kernel
theorem dX0_putDishFact_5 : decode cX0_putDishFact 5 = .ok (.bipush 6, 2) := by decide +kernel
theorem dX0_putDishFact_7 : decode cX0_putDishFact 7 = .ok (.imul, 1) := by decide +kernel
theorem dX0_putDishFact_8 : decode cX0_putDishFact 8 = .ok (.iload_n 2, 1) := by decide +kernel
theorem dX0_putDishFact_9 : decode cX0_putDishFact 9 = .ok (.iadd, 1) := by decide +kernel
theorem dX0_putDishFact_10 : decode cX0_putDishFact 10 = .ok (.iload_n 3, 1) := by decide +kernel
theorem dX0_putDishFact_11 : decode cX0_putDishFact 11 = .ok (.iastore, 1) := by decide +kernel
theorem dX0_putDishFact_12 : decode cX0_putDishFact 12 = .ok (.return_, 1) := by decide +kernel
theorem dX0_guestFact_0 : decode cX0_guestFact 0 = .ok (.aload_n 0, 1) := by decide +kernel
theorem dX0_guestFact_1 : decode cX0_guestFact 1 = .ok (.getfield 18, 3) := by decide +kernel
theorem dX0_guestFact_4 : decode cX0_guestFact 4 = .ok (.iload_n 1, 1) := by decide +kernel
theorem dX0_guestFact_5 : decode cX0_guestFact 5 = .ok (.iconst 5, 1) := by decide +kernel
theorem dX0_guestFact_6 : decode cX0_guestFact 6 = .ok (.imul, 1) := by decide +kernel
theorem dX0_guestFact_7 : decode cX0_guestFact 7 = .ok (.iload_n 2, 1) := by decide +kernel
theorem dX0_guestFact_8 : decode cX0_guestFact 8 = .ok (.iadd, 1) := by decide +kernel
theorem dX0_guestFact_9 : decode cX0_guestFact 9 = .ok (.iaload, 1) := by decide +kernel
theorem dX0_guestFact_10 : decode cX0_guestFact 10 = .ok (.ireturn, 1) := by decide +kernel
theorem dX0_putGuestFact_0 : decode cX0_putGuestFact 0 = .ok (.aload_n 0, 1) := by decide +kernel
theorem dX0_putGuestFact_1 : decode cX0_putGuestFact 1 = .ok (.getfield 18, 3) := by decide +kernel
theorem dX0_putGuestFact_4 : decode cX0_putGuestFact 4 = .ok (.iload_n 1, 1) := by decide +kernel
theorem dX0_putGuestFact_5 : decode cX0_putGuestFact 5 = .ok (.iconst 5, 1) := by decide +kernel
theorem dX0_putGuestFact_6 : decode cX0_putGuestFact 6 = .ok (.imul, 1) := by decide +kernel
theorem dX0_putGuestFact_7 : decode cX0_putGuestFact 7 = .ok (.iload_n 2, 1) := by decide +kernel
theorem dX0_putGuestFact_8 : decode cX0_putGuestFact 8 = .ok (.iadd, 1) := by decide +kernel
theorem dX0_putGuestFact_9 : decode cX0_putGuestFact 9 = .ok (.iload_n 3, 1) := by decide +kernel
theorem dX0_putGuestFact_10 : decode cX0_putGuestFact 10 = .ok (.iastore, 1) := by decide +kernel
theorem dX0_putGuestFact_11 : decode cX0_putGuestFact 11 = .ok (.return_, 1) := by decide +kernel
theorem dX0_isOff_0 : decode cX0_isOff 0 = .ok (.aload_n 0, 1) := by decide +kernel
theorem dX0_isOff_1 : decode cX0_isOff 1 = .ok (.iload_n 1, 1) := by decide +kernel
theorem dX0_isOff_2 : decode cX0_isOff 2 = .ok (.iconst 5, 1) := by decide +kernel
theorem dX0_isOff_3 : decode cX0_isOff 3 = .ok (.invokevirtual 43, 3) := by decide +kernel
theorem dX0_isOff_6 : decode cX0_isOff 6 = .ok (.iconst 1, 1) := by decide +kernel
theorem dX0_isOff_7 : decode cX0_isOff 7 = .ok (.if_icmp .ne 7, 3) := by decide +kernel
theorem dX0_isOff_10 : decode cX0_isOff 10 = .ok (.iconst 1, 1) := by decide +kernel
theorem dX0_isOff_11 : decode cX0_isOff 11 = .ok (.goto 4, 3) := by decide +kernel
theorem dX0_isOff_14 : decode cX0_isOff 14 = .ok (.iconst 0, 1) := by decide +kernel
theorem dX0_isOff_15 : decode cX0_isOff 15 = .ok (.ireturn, 1) := by decide +kernel
theorem dX0_addDish_0 : decode cX0_addDish 0 = .ok (.aload_n 0, 1) := by decide +kernel
theorem dX0_addDish_1 : decode cX0_addDish 1 = .ok (.getfield 34, 3) := by decide +kernel
theorem dX0_addDish_4 : decode cX0_addDish 4 = .ok (.istore 4, 2) := by decide +kernel
theorem dX0_addDish_6 : decode cX0_addDish 6 = .ok (.aload_n 0, 1) := by decide +kernel
theorem dX0_addDish_7 : decode cX0_addDish 7 = .ok (.dup, 1) := by decide +kernel
theorem dX0_addDish_8 : decode cX0_addDish 8 = .ok (.getfield 34, 3) := by decide +kernel
theorem dX0_addDish_11 : decode cX0_addDish 11 = .ok (.iconst 1, 1) := by decide +kernel
theorem dX0_addDish_12 : decode cX0_addDish 12 = .ok (.iadd, 1) := by decide +kernel
theorem dX0_addDish_13 : decode cX0_addDish 13 = .ok (.putfield 34, 3) := by decide +kernel
theorem dX0_addDish_16 : decode cX0_addDish 16 = .ok (.aload_n 0, 1) := by decide +kernel
theorem dX0_addDish_17 : decode cX0_addDish 17 = .ok (.iload 4, 2) := by decide +kernel
theorem dX0_addDish_19 : decode cX0_addDish 19 = .ok (.iconst 0, 1) := by decide +kernel
theorem dX0_addDish_20 : decode cX0_addDish 20 = .ok (.iload_n 1, 1) := by decide +kernel
theorem dX0_addDish_21 : decode cX0_addDish 21 = .ok (.invokevirtual 47, 3) := by decide +kernel
theorem dX0_addDish_24 : decode cX0_addDish 24 = .ok (.aload_n 0, 1) := by decide +kernel
theorem dX0_addDish_25 : decode cX0_addDish 25 = .ok (.iload 4, 2) := by decide +kernel
theorem dX0_addDish_27 : decode cX0_addDish 27 = .ok (.iconst 1, 1) := by decide +kernel
theorem dX0_addDish_28 : decode cX0_addDish 28 = .ok (.iload_n 2, 1) := by decide +kernel
theorem dX0_addDish_29 : decode cX0_addDish 29 = .ok (.invokevirtual 47, 3) := by decide +kernel
theorem dX0_addDish_32 : decode cX0_addDish 32 = .ok (.aload_n 0, 1) := by decide +kernel
theorem dX0_addDish_33 : decode cX0_addDish 33 = .ok (.iload 4, 2) := by decide +kernel
theorem dX0_addDish_35 : decode cX0_addDish 35 = .ok (.iconst 2, 1) := by decide +kernel
theorem dX0_addDish_36 : decode cX0_addDish 36 = .ok (.iload_n 3, 1) := by decide +kernel
theorem dX0_addDish_37 : decode cX0_addDish 37 = .ok (.invokevirtual 47, 3) := by decide +kernel
theorem dX0_addDish_40 : decode cX0_addDish 40 = .ok (.aload_n 0, 1) := by decide +kernel
theorem dX0_addDish_41 : decode cX0_addDish 41 = .ok (.iload 4, 2) := by decide +kernel
theorem dX0_addDish_43 : decode cX0_addDish 43 = .ok (.iconst 3, 1) := by decide +kernel
theorem dX0_addDish_44 : decode cX0_addDish 44 = .ok (.bipush 10, 2) := by decide +kernel
theorem dX0_addDish_46 : decode cX0_addDish 46 = .ok (.invokevirtual 47, 3) := by decide +kernel
theorem dX0_addDish_49 : decode cX0_addDish 49 = .ok (.aload_n 0, 1) := by decide +kernel
theorem dX0_addDish_50 : decode cX0_addDish 50 = .ok (.iload 4, 2) := by decide +kernel
theorem dX0_addDish_52 : decode cX0_addDish 52 = .ok (.iconst 4, 1) := by decide +kernel
theorem dX0_addDish_53 : decode cX0_addDish 53 = .ok (.iconst 0, 1) := by decide +kernel
theorem dX0_addDish_54 : decode cX0_addDish 54 = .ok (.invokevirtual 47, 3) := by decide +kernel
theorem dX0_addDish_57 : decode cX0_addDish 57 = .ok (.aload_n 0, 1) := by decide +kernel
theorem dX0_addDish_58 : decode cX0_addDish 58 = .ok (.iload 4, 2) := by decide +kernel
theorem dX0_addDish_60 : decode cX0_addDish 60 = .ok (.iconst 5, 1) := by decide +kernel
theorem dX0_addDish_61 : decode cX0_addDish 61 = .ok (.iconst 0, 1) := by decide +kernel
theorem dX0_addDish_62 : decode cX0_addDish 62 = .ok (.invokevirtual 47, 3) := by decide +kernel
theorem dX0_addDish_65 : decode cX0_addDish 65 = .ok (.iload 4, 2) := by decide +kernel
theorem dX0_addDish_67 : decode cX0_addDish 67 = .ok (.ireturn, 1) := by decide +kernel
theorem dX0_addGuest_0 : decode cX0_addGuest 0 = .ok (.aload_n 0, 1) := by decide +kernel
theorem dX0_addGuest_1 : decode cX0_addGuest 1 = .ok (.getfield 37, 3) := by decide +kernel
theorem dX0_addGuest_4 : decode cX0_addGuest 4 = .ok (.istore_n 2, 1) := by decide +kernel
theorem dX0_addGuest_5 : decode cX0_addGuest 5 = .ok (.aload_n 0, 1) := by decide +kernel
theorem dX0_addGuest_6 : decode cX0_addGuest 6 = .ok (.dup, 1) := by decide +kernel
theorem dX0_addGuest_7 : decode cX0_addGuest 7 = .ok (.getfield 37, 3) := by decide +kernel
theorem dX0_addGuest_10 : decode cX0_addGuest 10 = .ok (.iconst 1, 1) := by decide +kernel
theorem dX0_addGuest_11 : decode cX0_addGuest 11 = .ok (.iadd, 1) := by decide +kernel
theorem dX0_addGuest_12 : decode cX0_addGuest 12 = .ok (.putfield 37, 3) := by decide +kernel
theorem dX0_addGuest_15 : decode cX0_addGuest 15 = .ok (.aload_n 0, 1) := by decide +kernel
theorem dX0_addGuest_16 : decode cX0_addGuest 16 = .ok (.iload_n 2, 1) := by decide +kernel
theorem dX0_addGuest_17 : decode cX0_addGuest 17 = .ok (.iconst 0, 1) := by decide +kernel
theorem dX0_addGuest_18 : decode cX0_addGuest 18 = .ok (.iload_n 1, 1) := by decide +kernel
theorem dX0_addGuest_19 : decode cX0_addGuest 19 = .ok (.invokevirtual 51, 3) := by decide +kernel
theorem dX0_addGuest_22 : decode cX0_addGuest 22 = .ok (.aload_n 0, 1) := by decide +kernel
theorem dX0_addGuest_23 : decode cX0_addGuest 23 = .ok (.iload_n 2, 1) := by decide +kernel
theorem dX0_addGuest_24 : decode cX0_addGuest 24 = .ok (.iconst 1, 1) := by decide +kernel
theorem dX0_addGuest_25 : decode cX0_addGuest 25 = .ok (.iconst 0, 1) := by decide +kernel
theorem dX0_addGuest_26 : decode cX0_addGuest 26 = .ok (.invokevirtual 51, 3) := by decide +kernel
theorem dX0_addGuest_29 : decode cX0_addGuest 29 = .ok (.aload_n 0, 1) := by decide +kernel
theorem dX0_addGuest_30 : decode cX0_addGuest 30 = .ok (.iload_n 2, 1) := by decide +kernel
theorem dX0_addGuest_31 : decode cX0_addGuest 31 = .ok (.iconst 2, 1) := by decide +kernel
theorem dX0_addGuest_32 : decode cX0_addGuest 32 = .ok (.iconst 0, 1) := by decide +kernel
theorem dX0_addGuest_33 : decode cX0_addGuest 33 = .ok (.invokevirtual 51, 3) := by decide +kernel
theorem dX0_addGuest_36 : decode cX0_addGuest 36 = .ok (.aload_n 0, 1) := by decide +kernel
theorem dX0_addGuest_37 : decode cX0_addGuest 37 = .ok (.iload_n 2, 1) := by decide +kernel
theorem dX0_addGuest_38 : decode cX0_addGuest 38 = .ok (.iconst 3, 1) := by decide +kernel
theorem dX0_addGuest_39 : decode cX0_addGuest 39 = .ok (.iconst 0, 1) := by decide +kernel
theorem dX0_addGuest_40 : decode cX0_addGuest 40 = .ok (.invokevirtual 51, 3) := by decide +kernel
theorem dX0_addGuest_43 : decode cX0_addGuest 43 = .ok (.aload_n 0, 1) := by decide +kernel
theorem dX0_addGuest_44 : decode cX0_addGuest 44 = .ok (.iload_n 2, 1) := by decide +kernel
theorem dX0_addGuest_45 : decode cX0_addGuest 45 = .ok (.iconst 4, 1) := by decide +kernel
theorem dX0_addGuest_46 : decode cX0_addGuest 46 = .ok (.iconst 0, 1) := by decide +kernel
theorem dX0_addGuest_47 : decode cX0_addGuest 47 = .ok (.invokevirtual 51, 3) := by decide +kernel
theorem dX0_addGuest_50 : decode cX0_addGuest 50 = .ok (.iload_n 2, 1) := by decide +kernel
theorem dX0_addGuest_51 : decode cX0_addGuest 51 = .ok (.ireturn, 1) := by decide +kernel
theorem dX0_planMeal_0 : decode cX0_planMeal 0 = .ok (.aload_n 0, 1) := by decide +kernel
theorem dX0_planMeal_1 : decode cX0_planMeal 1 = .ok (.getfield 11, 3) := by decide +kernel
theorem dX0_planMeal_4 : decode cX0_planMeal 4 = .ok (.iload_n 1, 1) := by decide +kernel
theorem dX0_planMeal_5 : decode cX0_planMeal 5 = .ok (.bipush 10, 2) := by decide +kernel
theorem dX0_planMeal_7 : decode cX0_planMeal 7 = .ok (.iload_n 2, 1) := by decide +kernel
theorem dX0_planMeal_8 : decode cX0_planMeal 8 = .ok (.imul, 1) := by decide +kernel
theorem dX0_planMeal_9 : decode cX0_planMeal 9 = .ok (.iload_n 3, 1) := by decide +kernel
theorem dX0_planMeal_10 : decode cX0_planMeal 10 = .ok (.iadd, 1) := by decide +kernel
theorem dX0_planMeal_11 : decode cX0_planMeal 11 = .ok (.iastore, 1) := by decide +kernel
theorem dX0_planMeal_12 : decode cX0_planMeal 12 = .ok (.return_, 1) := by decide +kernel
theorem dX0_guestOfMeal_0 : decode cX0_guestOfMeal 0 = .ok (.iload_n 0, 1) := by decide +kernel
theorem dX0_guestOfMeal_1 : decode cX0_guestOfMeal 1 = .ok (.bipush 10, 2) := by decide +kernel
theorem dX0_guestOfMeal_3 : decode cX0_guestOfMeal 3 = .ok (.idiv, 1) := by decide +kernel
theorem dX0_guestOfMeal_4 : decode cX0_guestOfMeal 4 = .ok (.ireturn, 1) := by decide +kernel
theorem dX0_dishOfMeal_0 : decode cX0_dishOfMeal 0 = .ok (.iload_n 0, 1) := by decide +kernel
theorem dX0_dishOfMeal_1 : decode cX0_dishOfMeal 1 = .ok (.bipush 10, 2) := by decide +kernel
theorem dX0_dishOfMeal_3 : decode cX0_dishOfMeal 3 = .ok (.irem, 1) := by decide +kernel
theorem dX0_dishOfMeal_4 : decode cX0_dishOfMeal 4 = .ok (.ireturn, 1) := by decide +kernel
theorem dX0_isUnder_0 : decode cX0_isUnder 0 = .ok (.iload_n 0, 1) := by decide +kernel
theorem dX0_isUnder_1 : decode cX0_isUnder 1 = .ok (.istore_n 2, 1) := by decide +kernel
theorem dX0_isUnder_2 : decode cX0_isUnder 2 = .ok (.iconst 0, 1) := by decide +kernel
theorem dX0_isUnder_3 : decode cX0_isUnder 3 = .ok (.istore_n 3, 1) := by decide +kernel
theorem dX0_isUnder_4 : decode cX0_isUnder 4 = .ok (.iload_n 3, 1) := by decide +kernel
theorem dX0_isUnder_5 : decode cX0_isUnder 5 = .ok (.bipush 7, 2) := by decide +kernel
theorem dX0_isUnder_7 : decode cX0_isUnder 7 = .ok (.if_icmp .ge 26, 3) := by decide +kernel
theorem dX0_isUnder_10 : decode cX0_isUnder 10 = .ok (.iload_n 2, 1) := by decide +kernel
theorem dX0_isUnder_11 : decode cX0_isUnder 11 = .ok (.ifCond .lt 22, 3) := by decide +kernel
theorem dX0_isUnder_14 : decode cX0_isUnder 14 = .ok (.iload_n 2, 1) := by decide +kernel
theorem dX0_isUnder_15 : decode cX0_isUnder 15 = .ok (.iload_n 1, 1) := by decide +kernel
theorem dX0_isUnder_16 : decode cX0_isUnder 16 = .ok (.if_icmp .ne 5, 3) := by decide +kernel
theorem dX0_isUnder_19 : decode cX0_isUnder 19 = .ok (.iconst 1, 1) := by decide +kernel
theorem dX0_isUnder_20 : decode cX0_isUnder 20 = .ok (.ireturn, 1) := by decide +kernel
theorem dX0_isUnder_21 : decode cX0_isUnder 21 = .ok (.getstatic 54, 3) := by decide +kernel
theorem dX0_isUnder_24 : decode cX0_isUnder 24 = .ok (.iload_n 2, 1) := by decide +kernel
theorem dX0_isUnder_25 : decode cX0_isUnder 25 = .ok (.iaload, 1) := by decide +kernel
theorem dX0_isUnder_26 : decode cX0_isUnder 26 = .ok (.istore_n 2, 1) := by decide +kernel
theorem dX0_isUnder_27 : decode cX0_isUnder 27 = .ok (.iinc 3 1, 3) := by decide +kernel
theorem dX0_isUnder_30 : decode cX0_isUnder 30 = .ok (.goto (-26), 3) := by decide +kernel
theorem dX0_isUnder_33 : decode cX0_isUnder 33 = .ok (.iconst 0, 1) := by decide +kernel
theorem dX0_isUnder_34 : decode cX0_isUnder 34 = .ok (.ireturn, 1) := by decide +kernel
theorem dX0_takesLeft_0 : decode cX0_takesLeft 0 = .ok (.aload_n 0, 1) := by decide +kernel
theorem dX0_takesLeft_1 : decode cX0_takesLeft 1 = .ok (.iload_n 1, 1) := by decide +kernel
theorem dX0_takesLeft_2 : decode cX0_takesLeft 2 = .ok (.iconst 0, 1) := by decide +kernel
theorem dX0_takesLeft_3 : decode cX0_takesLeft 3 = .ok (.invokevirtual 57, 3) := by decide +kernel
theorem dX0_takesLeft_6 : decode cX0_takesLeft 6 = .ok (.istore_n 3, 1) := by decide +kernel
theorem dX0_takesLeft_7 : decode cX0_takesLeft 7 = .ok (.iload_n 3, 1) := by decide +kernel
theorem dX0_takesLeft_8 : decode cX0_takesLeft 8 = .ok (.iconst 2, 1) := by decide +kernel
theorem dX0_takesLeft_9 : decode cX0_takesLeft 9 = .ok (.irem, 1) := by decide +kernel
theorem dX0_takesLeft_10 : decode cX0_takesLeft 10 = .ok (.ifCond .ne 7, 3) := by decide +kernel
theorem dX0_takesLeft_13 : decode cX0_takesLeft 13 = .ok (.iconst 1, 1) := by decide +kernel
theorem dX0_takesLeft_14 : decode cX0_takesLeft 14 = .ok (.goto 4, 3) := by decide +kernel
theorem dX0_takesLeft_17 : decode cX0_takesLeft 17 = .ok (.iconst 0, 1) := by decide +kernel
theorem dX0_takesLeft_18 : decode cX0_takesLeft 18 = .ok (.istore 4, 2) := by decide +kernel
theorem dX0_takesLeft_20 : decode cX0_takesLeft 20 = .ok (.aload_n 0, 1) := by decide +kernel
theorem dX0_takesLeft_21 : decode cX0_takesLeft 21 = .ok (.iload_n 2, 1) := by decide +kernel
theorem dX0_takesLeft_22 : decode cX0_takesLeft 22 = .ok (.iconst 4, 1) := by decide +kernel
theorem dX0_takesLeft_23 : decode cX0_takesLeft 23 = .ok (.invokevirtual 43, 3) := by decide +kernel
theorem dX0_takesLeft_26 : decode cX0_takesLeft 26 = .ok (.iconst 2, 1) := by decide +kernel
theorem dX0_takesLeft_27 : decode cX0_takesLeft 27 = .ok (.irem, 1) := by decide +kernel
theorem dX0_takesLeft_28 : decode cX0_takesLeft 28 = .ok (.ifCond .ne 7, 3) := by decide +kernel
theorem dX0_takesLeft_31 : decode cX0_takesLeft 31 = .ok (.iconst 1, 1) := by decide +kernel
theorem dX0_takesLeft_32 : decode cX0_takesLeft 32 = .ok (.goto 4, 3) := by decide +kernel
theorem dX0_takesLeft_35 : decode cX0_takesLeft 35 = .ok (.iconst 0, 1) := by decide +kernel
theorem dX0_takesLeft_36 : decode cX0_takesLeft 36 = .ok (.istore 5, 2) := by decide +kernel
theorem dX0_takesLeft_38 : decode cX0_takesLeft 38 = .ok (.aload_n 0, 1) := by decide +kernel
theorem dX0_takesLeft_39 : decode cX0_takesLeft 39 = .ok (.iload_n 2, 1) := by decide +kernel
theorem dX0_takesLeft_40 : decode cX0_takesLeft 40 = .ok (.iconst 0, 1) := by decide +kernel
theorem dX0_takesLeft_41 : decode cX0_takesLeft 41 = .ok (.invokevirtual 43, 3) := by decide +kernel
theorem dX0_takesLeft_44 : decode cX0_takesLeft 44 = .ok (.tableswitch 99 1 6 #[40, 56, 68, 94, 97, 43], 40) := by decide +kernel
theorem dX0_takesLeft_84 : decode cX0_takesLeft 84 = .ok (.iload 4, 2) := by decide +kernel
theorem dX0_takesLeft_86 : decode cX0_takesLeft 86 = .ok (.ireturn, 1) := by decide +kernel
theorem dX0_takesLeft_87 : decode cX0_takesLeft 87 = .ok (.iload 4, 2) := by decide +kernel
theorem dX0_takesLeft_89 : decode cX0_takesLeft 89 = .ok (.iload 5, 2) := by decide +kernel
theorem dX0_takesLeft_91 : decode cX0_takesLeft 91 = .ok (.if_icmp .ne 7, 3) := by decide +kernel
theorem dX0_takesLeft_94 : decode cX0_takesLeft 94 = .ok (.iconst 1, 1) := by decide +kernel
theorem dX0_takesLeft_95 : decode cX0_takesLeft 95 = .ok (.goto 4, 3) := by decide +kernel
theorem dX0_takesLeft_98 : decode cX0_takesLeft 98 = .ok (.iconst 0, 1) := by decide +kernel
theorem dX0_takesLeft_99 : decode cX0_takesLeft 99 = .ok (.ireturn, 1) := by decide +kernel
theorem dX0_takesLeft_100 : decode cX0_takesLeft 100 = .ok (.iload_n 3, 1) := by decide +kernel
theorem dX0_takesLeft_101 : decode cX0_takesLeft 101 = .ok (.bipush 30, 2) := by decide +kernel
theorem dX0_takesLeft_103 : decode cX0_takesLeft 103 = .ok (.if_icmp .ge 7, 3) := by decide +kernel
theorem dX0_takesLeft_106 : decode cX0_takesLeft 106 = .ok (.iconst 1, 1) := by decide +kernel
theorem dX0_takesLeft_107 : decode cX0_takesLeft 107 = .ok (.goto 4, 3) := by decide +kernel
theorem dX0_takesLeft_110 : decode cX0_takesLeft 110 = .ok (.iconst 0, 1) := by decide +kernel
theorem dX0_takesLeft_111 : decode cX0_takesLeft 111 = .ok (.ireturn, 1) := by decide +kernel
theorem dX0_takesLeft_112 : decode cX0_takesLeft 112 = .ok (.iload_n 3, 1) := by decide +kernel
theorem dX0_takesLeft_113 : decode cX0_takesLeft 113 = .ok (.bipush 30, 2) := by decide +kernel
theorem dX0_takesLeft_115 : decode cX0_takesLeft 115 = .ok (.if_icmp .lt 17, 3) := by decide +kernel
theorem dX0_takesLeft_118 : decode cX0_takesLeft 118 = .ok (.aload_n 0, 1) := by decide +kernel
theorem dX0_takesLeft_119 : decode cX0_takesLeft 119 = .ok (.iload_n 1, 1) := by decide +kernel
theorem dX0_takesLeft_120 : decode cX0_takesLeft 120 = .ok (.aload_n 0, 1) := by decide +kernel
theorem dX0_takesLeft_121 : decode cX0_takesLeft 121 = .ok (.iload_n 2, 1) := by decide +kernel
theorem dX0_takesLeft_122 : decode cX0_takesLeft 122 = .ok (.iconst 2, 1) := by decide +kernel
theorem dX0_takesLeft_123 : decode cX0_takesLeft 123 = .ok (.invokevirtual 43, 3) := by decide +kernel
theorem dX0_takesLeft_126 : decode cX0_takesLeft 126 = .ok (.invokevirtual 60, 3) := by decide +kernel
theorem dX0_takesLeft_129 : decode cX0_takesLeft 129 = .ok (.ifCond .eq 7, 3) := by decide +kernel
theorem dX0_takesLeft_132 : decode cX0_takesLeft 132 = .ok (.iconst 1, 1) := by decide +kernel
theorem dX0_takesLeft_133 : decode cX0_takesLeft 133 = .ok (.goto 4, 3) := by decide +kernel
theorem dX0_takesLeft_136 : decode cX0_takesLeft 136 = .ok (.iconst 0, 1) := by decide +kernel
theorem dX0_takesLeft_137 : decode cX0_takesLeft 137 = .ok (.ireturn, 1) := by decide +kernel
theorem dX0_takesLeft_138 : decode cX0_takesLeft 138 = .ok (.iload 5, 2) := by decide +kernel
theorem dX0_takesLeft_140 : decode cX0_takesLeft 140 = .ok (.ireturn, 1) := by decide +kernel
theorem dX0_takesLeft_141 : decode cX0_takesLeft 141 = .ok (.iconst 1, 1) := by decide +kernel
theorem dX0_takesLeft_142 : decode cX0_takesLeft 142 = .ok (.ireturn, 1) := by decide +kernel
theorem dX0_takesLeft_143 : decode cX0_takesLeft 143 = .ok (.iload_n 3, 1) := by decide +kernel
theorem dX0_takesLeft_144 : decode cX0_takesLeft 144 = .ok (.bipush 50, 2) := by decide +kernel
theorem dX0_takesLeft_146 : decode cX0_takesLeft 146 = .ok (.if_icmp .ge 7, 3) := by decide +kernel
theorem dX0_takesLeft_149 : decode cX0_takesLeft 149 = .ok (.iconst 1, 1) := by decide +kernel
theorem dX0_takesLeft_150 : decode cX0_takesLeft 150 = .ok (.goto 4, 3) := by decide +kernel
theorem dX0_takesLeft_153 : decode cX0_takesLeft 153 = .ok (.iconst 0, 1) := by decide +kernel
theorem dX0_takesLeft_154 : decode cX0_takesLeft 154 = .ok (.ireturn, 1) := by decide +kernel
theorem dX0_anotherIsFor_0 : decode cX0_anotherIsFor 0 = .ok (.iconst 0, 1) := by decide +kernel
theorem dX0_anotherIsFor_1 : decode cX0_anotherIsFor 1 = .ok (.istore_n 3, 1) := by decide +kernel
theorem dX0_anotherIsFor_2 : decode cX0_anotherIsFor 2 = .ok (.iload_n 3, 1) := by decide +kernel
theorem dX0_anotherIsFor_3 : decode cX0_anotherIsFor 3 = .ok (.aload_n 0, 1) := by decide +kernel
theorem dX0_anotherIsFor_4 : decode cX0_anotherIsFor 4 = .ok (.getfield 37, 3) := by decide +kernel
theorem dX0_anotherIsFor_7 : decode cX0_anotherIsFor 7 = .ok (.if_icmp .ge 30, 3) := by decide +kernel
theorem dX0_anotherIsFor_10 : decode cX0_anotherIsFor 10 = .ok (.iload_n 3, 1) := by decide +kernel
theorem dX0_anotherIsFor_11 : decode cX0_anotherIsFor 11 = .ok (.iload_n 1, 1) := by decide +kernel
theorem dX0_anotherIsFor_12 : decode cX0_anotherIsFor 12 = .ok (.if_icmp .eq 19, 3) := by decide +kernel
theorem dX0_anotherIsFor_15 : decode cX0_anotherIsFor 15 = .ok (.aload_n 0, 1) := by decide +kernel
theorem dX0_anotherIsFor_16 : decode cX0_anotherIsFor 16 = .ok (.getfield 18, 3) := by decide +kernel
theorem dX0_anotherIsFor_19 : decode cX0_anotherIsFor 19 = .ok (.iload_n 3, 1) := by decide +kernel
theorem dX0_anotherIsFor_20 : decode cX0_anotherIsFor 20 = .ok (.iconst 5, 1) := by decide +kernel
theorem dX0_anotherIsFor_21 : decode cX0_anotherIsFor 21 = .ok (.imul, 1) := by decide +kernel
theorem dX0_anotherIsFor_22 : decode cX0_anotherIsFor 22 = .ok (.iconst 1, 1) := by decide +kernel
theorem dX0_anotherIsFor_23 : decode cX0_anotherIsFor 23 = .ok (.iadd, 1) := by decide +kernel
theorem dX0_anotherIsFor_24 : decode cX0_anotherIsFor 24 = .ok (.iaload, 1) := by decide +kernel
theorem dX0_anotherIsFor_25 : decode cX0_anotherIsFor 25 = .ok (.iload_n 2, 1) := by decide +kernel
theorem dX0_anotherIsFor_26 : decode cX0_anotherIsFor 26 = .ok (.if_icmp .ne 5, 3) := by decide +kernel
theorem dX0_anotherIsFor_29 : decode cX0_anotherIsFor 29 = .ok (.iconst 1, 1) := by decide +kernel
theorem dX0_anotherIsFor_30 : decode cX0_anotherIsFor 30 = .ok (.ireturn, 1) := by decide +kernel
theorem dX0_anotherIsFor_31 : decode cX0_anotherIsFor 31 = .ok (.iinc 3 1, 3) := by decide +kernel
theorem dX0_anotherIsFor_34 : decode cX0_anotherIsFor 34 = .ok (.goto (-32), 3) := by decide +kernel
theorem dX0_anotherIsFor_37 : decode cX0_anotherIsFor 37 = .ok (.iconst 0, 1) := by decide +kernel
theorem dX0_anotherIsFor_38 : decode cX0_anotherIsFor 38 = .ok (.ireturn, 1) := by decide +kernel
theorem dX0_bendOf_0 : decode cX0_bendOf 0 = .ok (.iload_n 1, 1) := by decide +kernel
theorem dX0_bendOf_1 : decode cX0_bendOf 1 = .ok (.ifCond .eq 8, 3) := by decide +kernel
theorem dX0_bendOf_4 : decode cX0_bendOf 4 = .ok (.bipush (-5), 2) := by decide +kernel
theorem dX0_bendOf_6 : decode cX0_bendOf 6 = .ok (.goto 4, 3) := by decide +kernel
theorem dX0_bendOf_9 : decode cX0_bendOf 9 = .ok (.iconst 5, 1) := by decide +kernel
theorem dX0_bendOf_10 : decode cX0_bendOf 10 = .ok (.istore_n 2, 1) := by decide +kernel
theorem dX0_bendOf_11 : decode cX0_bendOf 11 = .ok (.iload_n 0, 1) := by decide +kernel
theorem dX0_bendOf_12 : decode cX0_bendOf 12 = .ok (.tableswitch 65 1 6 #[40, 46, 50, 56, 63, 44], 40) := by decide +kernel
theorem dX0_bendOf_52 : decode cX0_bendOf 52 = .ok (.iload_n 2, 1) := by decide +kernel
theorem dX0_bendOf_53 : decode cX0_bendOf 53 = .ok (.iconst 1, 1) := by decide +kernel
theorem dX0_bendOf_54 : decode cX0_bendOf 54 = .ok (.isub, 1) := by decide +kernel
theorem dX0_bendOf_55 : decode cX0_bendOf 55 = .ok (.ireturn, 1) := by decide +kernel
theorem dX0_bendOf_56 : decode cX0_bendOf 56 = .ok (.iconst 1, 1) := by decide +kernel
theorem dX0_bendOf_57 : decode cX0_bendOf 57 = .ok (.ireturn, 1) := by decide +kernel
theorem dX0_bendOf_58 : decode cX0_bendOf 58 = .ok (.iconst 2, 1) := by decide +kernel
theorem dX0_bendOf_59 : decode cX0_bendOf 59 = .ok (.iload_n 2, 1) := by decide +kernel
theorem dX0_bendOf_60 : decode cX0_bendOf 60 = .ok (.imul, 1) := by decide +kernel
theorem dX0_bendOf_61 : decode cX0_bendOf 61 = .ok (.ireturn, 1) := by decide +kernel
theorem dX0_bendOf_62 : decode cX0_bendOf 62 = .ok (.iconst 2, 1) := by decide +kernel
theorem dX0_bendOf_63 : decode cX0_bendOf 63 = .ok (.iload_n 2, 1) := by decide +kernel
theorem dX0_bendOf_64 : decode cX0_bendOf 64 = .ok (.imul, 1) := by decide +kernel
theorem dX0_bendOf_65 : decode cX0_bendOf 65 = .ok (.iconst 3, 1) := by decide +kernel
theorem dX0_bendOf_66 : decode cX0_bendOf 66 = .ok (.iadd, 1) := by decide +kernel
theorem dX0_bendOf_67 : decode cX0_bendOf 67 = .ok (.ireturn, 1) := by decide +kernel
theorem dX0_bendOf_68 : decode cX0_bendOf 68 = .ok (.bipush (-2), 2) := by decide +kernel
theorem dX0_bendOf_70 : decode cX0_bendOf 70 = .ok (.iload_n 2, 1) := by decide +kernel
theorem dX0_bendOf_71 : decode cX0_bendOf 71 = .ok (.imul, 1) := by decide +kernel
theorem dX0_bendOf_72 : decode cX0_bendOf 72 = .ok (.iconst 3, 1) := by decide +kernel
theorem dX0_bendOf_73 : decode cX0_bendOf 73 = .ok (.iadd, 1) := by decide +kernel
theorem dX0_bendOf_74 : decode cX0_bendOf 74 = .ok (.ireturn, 1) := by decide +kernel
theorem dX0_bendOf_75 : decode cX0_bendOf 75 = .ok (.iconst 0, 1) := by decide +kernel
theorem dX0_bendOf_76 : decode cX0_bendOf 76 = .ok (.ireturn, 1) := by decide +kernel
theorem dX0_bendOf_77 : decode cX0_bendOf 77 = .ok (.iload_n 2, 1) := by decide +kernel
theorem dX0_bendOf_78 : decode cX0_bendOf 78 = .ok (.ireturn, 1) := by decide +kernel
theorem dX0_costOf_0 : decode cX0_costOf 0 = .ok (.aload_n 0, 1) := by decide +kernel
theorem dX0_costOf_1 : decode cX0_costOf 1 = .ok (.iload_n 2, 1) := by decide +kernel
theorem dX0_costOf_2 : decode cX0_costOf 2 = .ok (.iconst 3, 1) := by decide +kernel
theorem dX0_costOf_3 : decode cX0_costOf 3 = .ok (.invokevirtual 43, 3) := by decide +kernel
theorem dX0_costOf_6 : decode cX0_costOf 6 = .ok (.istore 4, 2) := by decide +kernel
theorem dX0_costOf_8 : decode cX0_costOf 8 = .ok (.iload 4, 2) := by decide +kernel
theorem dX0_costOf_10 : decode cX0_costOf 10 = .ok (.aload_n 0, 1) := by decide +kernel
theorem dX0_costOf_11 : decode cX0_costOf 11 = .ok (.iload_n 1, 1) := by decide +kernel
theorem dX0_costOf_12 : decode cX0_costOf 12 = .ok (.iconst 0, 1) := by decide +kernel
theorem dX0_costOf_13 : decode cX0_costOf 13 = .ok (.invokevirtual 57, 3) := by decide +kernel
theorem dX0_costOf_16 : decode cX0_costOf 16 = .ok (.bipush 10, 2) := by decide +kernel
theorem dX0_costOf_18 : decode cX0_costOf 18 = .ok (.idiv, 1) := by decide +kernel
theorem dX0_costOf_19 : decode cX0_costOf 19 = .ok (.iadd, 1) := by decide +kernel
theorem dX0_costOf_20 : decode cX0_costOf 20 = .ok (.istore 5, 2) := by decide +kernel
theorem dX0_costOf_22 : decode cX0_costOf 22 = .ok (.aload_n 0, 1) := by decide +kernel
theorem dX0_costOf_23 : decode cX0_costOf 23 = .ok (.iload_n 2, 1) := by decide +kernel
theorem dX0_costOf_24 : decode cX0_costOf 24 = .ok (.iconst 0, 1) := by decide +kernel
theorem dX0_costOf_25 : decode cX0_costOf 25 = .ok (.invokevirtual 43, 3) := by decide +kernel
theorem dX0_costOf_28 : decode cX0_costOf 28 = .ok (.tableswitch 73 1 6 #[40, 51, 54, 59, 73, 49], 40) := by decide +kernel
theorem dX0_costOf_68 : decode cX0_costOf 68 = .ok (.iload 4, 2) := by decide +kernel
theorem dX0_costOf_70 : decode cX0_costOf 70 = .ok (.iconst 2, 1) := by decide +kernel
theorem dX0_costOf_71 : decode cX0_costOf 71 = .ok (.isub, 1) := by decide +kernel
theorem dX0_costOf_72 : decode cX0_costOf 72 = .ok (.iconst 0, 1) := by decide +kernel
theorem dX0_costOf_73 : decode cX0_costOf 73 = .ok (.invokestatic 64, 3) := by decide +kernel
theorem dX0_costOf_76 : decode cX0_costOf 76 = .ok (.ireturn, 1) := by decide +kernel
theorem dX0_costOf_77 : decode cX0_costOf 77 = .ok (.iconst 1, 1) := by decide +kernel
theorem dX0_costOf_78 : decode cX0_costOf 78 = .ok (.ireturn, 1) := by decide +kernel
theorem dX0_costOf_79 : decode cX0_costOf 79 = .ok (.iload 5, 2) := by decide +kernel
theorem dX0_costOf_81 : decode cX0_costOf 81 = .ok (.ireturn, 1) := by decide +kernel
theorem dX0_costOf_82 : decode cX0_costOf 82 = .ok (.iconst 2, 1) := by decide +kernel
theorem dX0_costOf_83 : decode cX0_costOf 83 = .ok (.iload 5, 2) := by decide +kernel
theorem dX0_costOf_85 : decode cX0_costOf 85 = .ok (.imul, 1) := by decide +kernel
theorem dX0_costOf_86 : decode cX0_costOf 86 = .ok (.ireturn, 1) := by decide +kernel
theorem dX0_costOf_87 : decode cX0_costOf 87 = .ok (.iload_n 3, 1) := by decide +kernel
theorem dX0_costOf_88 : decode cX0_costOf 88 = .ok (.ifCond .eq 10, 3) := by decide +kernel
theorem dX0_costOf_91 : decode cX0_costOf 91 = .ok (.iconst 2, 1) := by decide +kernel
theorem dX0_costOf_92 : decode cX0_costOf 92 = .ok (.iload 5, 2) := by decide +kernel
theorem dX0_costOf_94 : decode cX0_costOf 94 = .ok (.imul, 1) := by decide +kernel
theorem dX0_costOf_95 : decode cX0_costOf 95 = .ok (.goto 5, 3) := by decide +kernel
theorem dX0_costOf_98 : decode cX0_costOf 98 = .ok (.iload 5, 2) := by decide +kernel
theorem dX0_costOf_100 : decode cX0_costOf 100 = .ok (.ireturn, 1) := by decide +kernel
theorem dX0_costOf_101 : decode cX0_costOf 101 = .ok (.iload 4, 2) := by decide +kernel
theorem dX0_costOf_103 : decode cX0_costOf 103 = .ok (.ireturn, 1) := by decide +kernel
theorem dX0_townOf_0 : decode cX0_townOf 0 = .ok (.aload_n 0, 1) := by decide +kernel
theorem dX0_townOf_1 : decode cX0_townOf 1 = .ok (.iload_n 1, 1) := by decide +kernel
theorem dX0_townOf_2 : decode cX0_townOf 2 = .ok (.iload_n 2, 1) := by decide +kernel
theorem dX0_townOf_3 : decode cX0_townOf 3 = .ok (.ifCond .eq 7, 3) := by decide +kernel
theorem dX0_townOf_6 : decode cX0_townOf 6 = .ok (.iconst 1, 1) := by decide +kernel
theorem dX0_townOf_7 : decode cX0_townOf 7 = .ok (.goto 4, 3) := by decide +kernel
theorem dX0_townOf_10 : decode cX0_townOf 10 = .ok (.iconst 2, 1) := by decide +kernel
theorem dX0_townOf_11 : decode cX0_townOf 11 = .ok (.invokevirtual 43, 3) := by decide +kernel
theorem dX0_townOf_14 : decode cX0_townOf 14 = .ok (.ireturn, 1) := by decide +kernel
theorem dX0_bendGuest_0 : decode cX0_bendGuest 0 = .ok (.aload_n 0, 1) := by decide +kernel
theorem dX0_bendGuest_1 : decode cX0_bendGuest 1 = .ok (.iload_n 1, 1) := by decide +kernel
theorem dX0_bendGuest_2 : decode cX0_bendGuest 2 = .ok (.iconst 0, 1) := by decide +kernel
theorem dX0_bendGuest_3 : decode cX0_bendGuest 3 = .ok (.invokevirtual 57, 3) := by decide +kernel
theorem dX0_bendGuest_6 : decode cX0_bendGuest 6 = .ok (.iload_n 2, 1) := by decide +kernel
theorem dX0_bendGuest_7 : decode cX0_bendGuest 7 = .ok (.iadd, 1) := by decide +kernel
theorem dX0_bendGuest_8 : decode cX0_bendGuest 8 = .ok (.istore_n 3, 1) := by decide +kernel
theorem dX0_bendGuest_9 : decode cX0_bendGuest 9 = .ok (.aload_n 0, 1) := by decide +kernel
theorem dX0_bendGuest_10 : decode cX0_bendGuest 10 = .ok (.iload_n 1, 1) := by decide +kernel
theorem dX0_bendGuest_11 : decode cX0_bendGuest 11 = .ok (.iconst 0, 1) := by decide +kernel
theorem dX0_bendGuest_12 : decode cX0_bendGuest 12 = .ok (.iconst 0, 1) := by decide +kernel
theorem dX0_bendGuest_13 : decode cX0_bendGuest 13 = .ok (.bipush 99, 2) := by decide +kernel
theorem dX0_bendGuest_15 : decode cX0_bendGuest 15 = .ok (.iload_n 3, 1) := by decide +kernel
theorem dX0_bendGuest_16 : decode cX0_bendGuest 16 = .ok (.invokestatic 69, 3) := by decide +kernel
theorem dX0_bendGuest_19 : decode cX0_bendGuest 19 = .ok (.invokestatic 64, 3) := by decide +kernel
theorem dX0_bendGuest_22 : decode cX0_bendGuest 22 = .ok (.invokevirtual 51, 3) := by decide +kernel
theorem dX0_bendGuest_25 : decode cX0_bendGuest 25 = .ok (.return_, 1) := by decide +kernel
theorem dX0_serveOnce_0 : decode cX0_serveOnce 0 = .ok (.aload_n 0, 1) := by decide +kernel
theorem dX0_serveOnce_1 : decode cX0_serveOnce 1 = .ok (.iload_n 1, 1) := by decide +kernel
theorem dX0_serveOnce_2 : decode cX0_serveOnce 2 = .ok (.iconst 4, 1) := by decide +kernel
theorem dX0_serveOnce_3 : decode cX0_serveOnce 3 = .ok (.sipush 9999, 3) := by decide +kernel
theorem dX0_serveOnce_6 : decode cX0_serveOnce 6 = .ok (.aload_n 0, 1) := by decide +kernel
theorem dX0_serveOnce_7 : decode cX0_serveOnce 7 = .ok (.iload_n 1, 1) := by decide +kernel
theorem dX0_serveOnce_8 : decode cX0_serveOnce 8 = .ok (.iconst 4, 1) := by decide +kernel
theorem dX0_serveOnce_9 : decode cX0_serveOnce 9 = .ok (.invokevirtual 43, 3) := by decide +kernel
theorem dX0_serveOnce_12 : decode cX0_serveOnce 12 = .ok (.iconst 1, 1) := by decide +kernel
theorem dX0_serveOnce_13 : decode cX0_serveOnce 13 = .ok (.iadd, 1) := by decide +kernel
theorem dX0_serveOnce_14 : decode cX0_serveOnce 14 = .ok (.invokestatic 69, 3) := by decide +kernel
theorem dX0_serveOnce_17 : decode cX0_serveOnce 17 = .ok (.invokevirtual 47, 3) := by decide +kernel
theorem dX0_serveOnce_20 : decode cX0_serveOnce 20 = .ok (.return_, 1) := by decide +kernel
theorem dX0_haveMeal_0 : decode cX0_haveMeal 0 = .ok (.aload_n 0, 1) := by decide +kernel
theorem dX0_haveMeal_1 : decode cX0_haveMeal 1 = .ok (.iload_n 1, 1) := by decide +kernel
theorem dX0_haveMeal_2 : decode cX0_haveMeal 2 = .ok (.iload_n 2, 1) := by decide +kernel
theorem dX0_haveMeal_3 : decode cX0_haveMeal 3 = .ok (.invokevirtual 72, 3) := by decide +kernel
theorem dX0_haveMeal_6 : decode cX0_haveMeal 6 = .ok (.istore_n 3, 1) := by decide +kernel
theorem dX0_haveMeal_7 : decode cX0_haveMeal 7 = .ok (.aload_n 0, 1) := by decide +kernel
theorem dX0_haveMeal_8 : decode cX0_haveMeal 8 = .ok (.iload_n 2, 1) := by decide +kernel
theorem dX0_haveMeal_9 : decode cX0_haveMeal 9 = .ok (.iload_n 3, 1) := by decide +kernel
theorem dX0_haveMeal_10 : decode cX0_haveMeal 10 = .ok (.invokevirtual 75, 3) := by decide +kernel
theorem dX0_haveMeal_13 : decode cX0_haveMeal 13 = .ok (.istore 4, 2) := by decide +kernel
theorem dX0_haveMeal_15 : decode cX0_haveMeal 15 = .ok (.aload_n 0, 1) := by decide +kernel
theorem dX0_haveMeal_16 : decode cX0_haveMeal 16 = .ok (.iload_n 1, 1) := by decide +kernel
theorem dX0_haveMeal_17 : decode cX0_haveMeal 17 = .ok (.iconst 2, 1) := by decide +kernel
theorem dX0_haveMeal_18 : decode cX0_haveMeal 18 = .ok (.invokevirtual 57, 3) := by decide +kernel
theorem dX0_haveMeal_21 : decode cX0_haveMeal 21 = .ok (.aload_n 0, 1) := by decide +kernel
theorem dX0_haveMeal_22 : decode cX0_haveMeal 22 = .ok (.iload_n 1, 1) := by decide +kernel
theorem dX0_haveMeal_23 : decode cX0_haveMeal 23 = .ok (.iload_n 2, 1) := by decide +kernel
theorem dX0_haveMeal_24 : decode cX0_haveMeal 24 = .ok (.iload_n 3, 1) := by decide +kernel
theorem dX0_haveMeal_25 : decode cX0_haveMeal 25 = .ok (.invokevirtual 79, 3) := by decide +kernel
theorem dX0_haveMeal_28 : decode cX0_haveMeal 28 = .ok (.iadd, 1) := by decide +kernel
theorem dX0_haveMeal_29 : decode cX0_haveMeal 29 = .ok (.istore 5, 2) := by decide +kernel
theorem dX0_haveMeal_31 : decode cX0_haveMeal 31 = .ok (.aload_n 0, 1) := by decide +kernel
theorem dX0_haveMeal_32 : decode cX0_haveMeal 32 = .ok (.iload_n 1, 1) := by decide +kernel
theorem dX0_haveMeal_33 : decode cX0_haveMeal 33 = .ok (.iconst 1, 1) := by decide +kernel
theorem dX0_haveMeal_34 : decode cX0_haveMeal 34 = .ok (.iload 4, 2) := by decide +kernel
theorem dX0_haveMeal_36 : decode cX0_haveMeal 36 = .ok (.invokevirtual 51, 3) := by decide +kernel
theorem dX0_haveMeal_39 : decode cX0_haveMeal 39 = .ok (.aload_n 0, 1) := by decide +kernel
theorem dX0_haveMeal_40 : decode cX0_haveMeal 40 = .ok (.iload_n 1, 1) := by decide +kernel
theorem dX0_haveMeal_41 : decode cX0_haveMeal 41 = .ok (.iconst 3, 1) := by decide +kernel
theorem dX0_haveMeal_42 : decode cX0_haveMeal 42 = .ok (.aload_n 0, 1) := by decide +kernel
theorem dX0_haveMeal_43 : decode cX0_haveMeal 43 = .ok (.iload_n 1, 1) := by decide +kernel
theorem dX0_haveMeal_44 : decode cX0_haveMeal 44 = .ok (.iconst 3, 1) := by decide +kernel
theorem dX0_haveMeal_45 : decode cX0_haveMeal 45 = .ok (.invokevirtual 57, 3) := by decide +kernel
theorem dX0_haveMeal_48 : decode cX0_haveMeal 48 = .ok (.iconst 1, 1) := by decide +kernel
theorem dX0_haveMeal_49 : decode cX0_haveMeal 49 = .ok (.iload 4, 2) := by decide +kernel
theorem dX0_haveMeal_51 : decode cX0_haveMeal 51 = .ok (.ishl, 1) := by decide +kernel
theorem dX0_haveMeal_52 : decode cX0_haveMeal 52 = .ok (.ior, 1) := by decide +kernel
theorem dX0_haveMeal_53 : decode cX0_haveMeal 53 = .ok (.invokevirtual 51, 3) := by decide +kernel
theorem dX0_haveMeal_56 : decode cX0_haveMeal 56 = .ok (.aload_n 0, 1) := by decide +kernel
theorem dX0_haveMeal_57 : decode cX0_haveMeal 57 = .ok (.iload_n 1, 1) := by decide +kernel
theorem dX0_haveMeal_58 : decode cX0_haveMeal 58 = .ok (.iconst 2, 1) := by decide +kernel
theorem dX0_haveMeal_59 : decode cX0_haveMeal 59 = .ok (.ldc 83, 2) := by decide +kernel
theorem dX0_haveMeal_61 : decode cX0_haveMeal 61 = .ok (.iload 5, 2) := by decide +kernel
theorem dX0_haveMeal_63 : decode cX0_haveMeal 63 = .ok (.invokestatic 69, 3) := by decide +kernel
theorem dX0_haveMeal_66 : decode cX0_haveMeal 66 = .ok (.invokevirtual 51, 3) := by decide +kernel
theorem dX0_haveMeal_69 : decode cX0_haveMeal 69 = .ok (.aload_n 0, 1) := by decide +kernel
theorem dX0_haveMeal_70 : decode cX0_haveMeal 70 = .ok (.iload_n 1, 1) := by decide +kernel
theorem dX0_haveMeal_71 : decode cX0_haveMeal 71 = .ok (.iconst 4, 1) := by decide +kernel
theorem dX0_haveMeal_72 : decode cX0_haveMeal 72 = .ok (.sipush 9999, 3) := by decide +kernel
theorem dX0_haveMeal_75 : decode cX0_haveMeal 75 = .ok (.aload_n 0, 1) := by decide +kernel
theorem dX0_haveMeal_76 : decode cX0_haveMeal 76 = .ok (.iload_n 1, 1) := by decide +kernel
theorem dX0_haveMeal_77 : decode cX0_haveMeal 77 = .ok (.iconst 4, 1) := by decide +kernel
theorem dX0_haveMeal_78 : decode cX0_haveMeal 78 = .ok (.invokevirtual 57, 3) := by decide +kernel
theorem dX0_haveMeal_81 : decode cX0_haveMeal 81 = .ok (.iconst 1, 1) := by decide +kernel
theorem dX0_haveMeal_82 : decode cX0_haveMeal 82 = .ok (.iadd, 1) := by decide +kernel
theorem dX0_haveMeal_83 : decode cX0_haveMeal 83 = .ok (.invokestatic 69, 3) := by decide +kernel
theorem dX0_haveMeal_86 : decode cX0_haveMeal 86 = .ok (.invokevirtual 51, 3) := by decide +kernel
theorem dX0_haveMeal_89 : decode cX0_haveMeal 89 = .ok (.aload_n 0, 1) := by decide +kernel
theorem dX0_haveMeal_90 : decode cX0_haveMeal 90 = .ok (.iload_n 1, 1) := by decide +kernel
theorem dX0_haveMeal_91 : decode cX0_haveMeal 91 = .ok (.aload_n 0, 1) := by decide +kernel
theorem dX0_haveMeal_92 : decode cX0_haveMeal 92 = .ok (.iload_n 2, 1) := by decide +kernel
theorem dX0_haveMeal_93 : decode cX0_haveMeal 93 = .ok (.iconst 0, 1) := by decide +kernel
theorem dX0_haveMeal_94 : decode cX0_haveMeal 94 = .ok (.invokevirtual 43, 3) := by decide +kernel
theorem dX0_haveMeal_97 : decode cX0_haveMeal 97 = .ok (.iload_n 3, 1) := by decide +kernel
theorem dX0_haveMeal_98 : decode cX0_haveMeal 98 = .ok (.invokestatic 84, 3) := by decide +kernel
theorem dX0_haveMeal_101 : decode cX0_haveMeal 101 = .ok (.invokevirtual 87, 3) := by decide +kernel
theorem dX0_haveMeal_104 : decode cX0_haveMeal 104 = .ok (.aload_n 0, 1) := by decide +kernel
theorem dX0_haveMeal_105 : decode cX0_haveMeal 105 = .ok (.iload_n 2, 1) := by decide +kernel
theorem dX0_haveMeal_106 : decode cX0_haveMeal 106 = .ok (.invokevirtual 91, 3) := by decide +kernel
theorem dX0_haveMeal_109 : decode cX0_haveMeal 109 = .ok (.return_, 1) := by decide +kernel
theorem dX0_passDay_0 : decode cX0_passDay 0 = .ok (.aload_n 0, 1) := by decide +kernel
theorem dX0_passDay_1 : decode cX0_passDay 1 = .ok (.getfield 11, 3) := by decide +kernel
theorem dX0_passDay_4 : decode cX0_passDay 4 = .ok (.aload_n 0, 1) := by decide +kernel
theorem dX0_passDay_5 : decode cX0_passDay 5 = .ok (.getfield 40, 3) := by decide +kernel
theorem dX0_passDay_8 : decode cX0_passDay 8 = .ok (.bipush 6, 2) := by decide +kernel
theorem dX0_passDay_10 : decode cX0_passDay 10 = .ok (.irem, 1) := by decide +kernel
theorem dX0_passDay_11 : decode cX0_passDay 11 = .ok (.iaload, 1) := by decide +kernel
theorem dX0_passDay_12 : decode cX0_passDay 12 = .ok (.istore_n 1, 1) := by decide +kernel
theorem dX0_passDay_13 : decode cX0_passDay 13 = .ok (.iload_n 1, 1) := by decide +kernel
theorem dX0_passDay_14 : decode cX0_passDay 14 = .ok (.invokestatic 95, 3) := by decide +kernel
theorem dX0_passDay_17 : decode cX0_passDay 17 = .ok (.istore_n 2, 1) := by decide +kernel
theorem dX0_passDay_18 : decode cX0_passDay 18 = .ok (.iload_n 1, 1) := by decide +kernel
theorem dX0_passDay_19 : decode cX0_passDay 19 = .ok (.invokestatic 99, 3) := by decide +kernel
theorem dX0_passDay_22 : decode cX0_passDay 22 = .ok (.istore_n 3, 1) := by decide +kernel
theorem dX0_passDay_23 : decode cX0_passDay 23 = .ok (.aload_n 0, 1) := by decide +kernel
theorem dX0_passDay_24 : decode cX0_passDay 24 = .ok (.iload_n 2, 1) := by decide +kernel
theorem dX0_passDay_25 : decode cX0_passDay 25 = .ok (.invokevirtual 102, 3) := by decide +kernel
theorem dX0_passDay_28 : decode cX0_passDay 28 = .ok (.ifCond .eq 25, 3) := by decide +kernel
theorem dX0_passDay_31 : decode cX0_passDay 31 = .ok (.aload_n 0, 1) := by decide +kernel
theorem dX0_passDay_32 : decode cX0_passDay 32 = .ok (.iload_n 3, 1) := by decide +kernel
theorem dX0_passDay_33 : decode cX0_passDay 33 = .ok (.invokevirtual 106, 3) := by decide +kernel
theorem dX0_passDay_36 : decode cX0_passDay 36 = .ok (.ifCond .eq 17, 3) := by decide +kernel
theorem dX0_passDay_39 : decode cX0_passDay 39 = .ok (.aload_n 0, 1) := by decide +kernel
theorem dX0_passDay_40 : decode cX0_passDay 40 = .ok (.iload_n 3, 1) := by decide +kernel
theorem dX0_passDay_41 : decode cX0_passDay 41 = .ok (.invokevirtual 109, 3) := by decide +kernel
theorem dX0_passDay_44 : decode cX0_passDay 44 = .ok (.ifCond .ne 9, 3) := by decide +kernel
theorem dX0_passDay_47 : decode cX0_passDay 47 = .ok (.aload_n 0, 1) := by decide +kernel
theorem dX0_passDay_48 : decode cX0_passDay 48 = .ok (.iload_n 2, 1) := by decide +kernel
theorem dX0_passDay_49 : decode cX0_passDay 49 = .ok (.iload_n 3, 1) := by decide +kernel
theorem dX0_passDay_50 : decode cX0_passDay 50 = .ok (.invokevirtual 112, 3) := by decide +kernel
theorem dX0_passDay_53 : decode cX0_passDay 53 = .ok (.aload_n 0, 1) := by decide +kernel
theorem dX0_passDay_54 : decode cX0_passDay 54 = .ok (.ldc 83, 2) := by decide +kernel
theorem dX0_passDay_56 : decode cX0_passDay 56 = .ok (.aload_n 0, 1) := by decide +kernel
theorem dX0_passDay_57 : decode cX0_passDay 57 = .ok (.getfield 40, 3) := by decide +kernel
theorem dX0_passDay_60 : decode cX0_passDay 60 = .ok (.iconst 1, 1) := by decide +kernel
theorem dX0_passDay_61 : decode cX0_passDay 61 = .ok (.iadd, 1) := by decide +kernel
theorem dX0_passDay_62 : decode cX0_passDay 62 = .ok (.invokestatic 69, 3) := by decide +kernel
theorem dX0_passDay_65 : decode cX0_passDay 65 = .ok (.putfield 40, 3) := by decide +kernel
theorem dX0_passDay_68 : decode cX0_passDay 68 = .ok (.return_, 1) := by decide +kernel
theorem dX0_passDays_0 : decode cX0_passDays 0 = .ok (.iconst 0, 1) := by decide +kernel
theorem dX0_passDays_1 : decode cX0_passDays 1 = .ok (.istore_n 2, 1) := by decide +kernel
theorem dX0_passDays_2 : decode cX0_passDays 2 = .ok (.iload_n 2, 1) := by decide +kernel
theorem dX0_passDays_3 : decode cX0_passDays 3 = .ok (.iload_n 1, 1) := by decide +kernel
theorem dX0_passDays_4 : decode cX0_passDays 4 = .ok (.if_icmp .ge 13, 3) := by decide +kernel
theorem dX0_passDays_7 : decode cX0_passDays 7 = .ok (.aload_n 0, 1) := by decide +kernel
theorem dX0_passDays_8 : decode cX0_passDays 8 = .ok (.invokevirtual 115, 3) := by decide +kernel
theorem dX0_passDays_11 : decode cX0_passDays 11 = .ok (.iinc 2 1, 3) := by decide +kernel
theorem dX0_passDays_14 : decode cX0_passDays 14 = .ok (.goto (-12), 3) := by decide +kernel
theorem dX0_passDays_17 : decode cX0_passDays 17 = .ok (.return_, 1) := by decide +kernel
theorem dX0_drawNumber_0 : decode cX0_drawNumber 0 = .ok (.aload_n 0, 1) := by decide +kernel
theorem dX0_drawNumber_1 : decode cX0_drawNumber 1 = .ok (.aload_n 0, 1) := by decide +kernel
theorem dX0_drawNumber_2 : decode cX0_drawNumber 2 = .ok (.getfield 24, 3) := by decide +kernel
theorem dX0_drawNumber_5 : decode cX0_drawNumber 5 = .ok (.ldc 118, 2) := by decide +kernel
theorem dX0_drawNumber_7 : decode cX0_drawNumber 7 = .ok (.imul, 1) := by decide +kernel
theorem dX0_drawNumber_8 : decode cX0_drawNumber 8 = .ok (.sipush 12345, 3) := by decide +kernel
theorem dX0_drawNumber_11 : decode cX0_drawNumber 11 = .ok (.iadd, 1) := by decide +kernel
theorem dX0_drawNumber_12 : decode cX0_drawNumber 12 = .ok (.putfield 24, 3) := by decide +kernel
theorem dX0_drawNumber_15 : decode cX0_drawNumber 15 = .ok (.aload_n 0, 1) := by decide +kernel
theorem dX0_drawNumber_16 : decode cX0_drawNumber 16 = .ok (.getfield 24, 3) := by decide +kernel
theorem dX0_drawNumber_19 : decode cX0_drawNumber 19 = .ok (.bipush 8, 2) := by decide +kernel
theorem dX0_drawNumber_21 : decode cX0_drawNumber 21 = .ok (.iushr, 1) := by decide +kernel
theorem dX0_drawNumber_22 : decode cX0_drawNumber 22 = .ok (.ireturn, 1) := by decide +kernel
theorem dX0_billSum_0 : decode cX0_billSum 0 = .ok (.iconst 0, 1) := by decide +kernel
theorem dX0_billSum_1 : decode cX0_billSum 1 = .ok (.istore_n 1, 1) := by decide +kernel
theorem dX0_billSum_2 : decode cX0_billSum 2 = .ok (.iconst 0, 1) := by decide +kernel
theorem dX0_billSum_3 : decode cX0_billSum 3 = .ok (.istore_n 2, 1) := by decide +kernel
theorem dX0_billSum_4 : decode cX0_billSum 4 = .ok (.iload_n 2, 1) := by decide +kernel
theorem dX0_billSum_5 : decode cX0_billSum 5 = .ok (.aload_n 0, 1) := by decide +kernel
theorem dX0_billSum_6 : decode cX0_billSum 6 = .ok (.getfield 37, 3) := by decide +kernel
theorem dX0_billSum_9 : decode cX0_billSum 9 = .ok (.if_icmp .ge 18, 3) := by decide +kernel
theorem dX0_billSum_12 : decode cX0_billSum 12 = .ok (.iload_n 1, 1) := by decide +kernel
theorem dX0_billSum_13 : decode cX0_billSum 13 = .ok (.aload_n 0, 1) := by decide +kernel
theorem dX0_billSum_14 : decode cX0_billSum 14 = .ok (.iload_n 2, 1) := by decide +kernel
theorem dX0_billSum_15 : decode cX0_billSum 15 = .ok (.iconst 2, 1) := by decide +kernel
theorem dX0_billSum_16 : decode cX0_billSum 16 = .ok (.invokevirtual 57, 3) := by decide +kernel
theorem dX0_billSum_19 : decode cX0_billSum 19 = .ok (.iadd, 1) := by decide +kernel
theorem dX0_billSum_20 : decode cX0_billSum 20 = .ok (.istore_n 1, 1) := by decide +kernel
theorem dX0_billSum_21 : decode cX0_billSum 21 = .ok (.iinc 2 1, 3) := by decide +kernel
theorem dX0_billSum_24 : decode cX0_billSum 24 = .ok (.goto (-20), 3) := by decide +kernel
theorem dX0_billSum_27 : decode cX0_billSum 27 = .ok (.iload_n 1, 1) := by decide +kernel
theorem dX0_billSum_28 : decode cX0_billSum 28 = .ok (.ireturn, 1) := by decide +kernel
theorem dX0_servedSum_0 : decode cX0_servedSum 0 = .ok (.iconst 0, 1) := by decide +kernel
theorem dX0_servedSum_1 : decode cX0_servedSum 1 = .ok (.istore_n 1, 1) := by decide +kernel
theorem dX0_servedSum_2 : decode cX0_servedSum 2 = .ok (.iconst 0, 1) := by decide +kernel
theorem dX0_servedSum_3 : decode cX0_servedSum 3 = .ok (.istore_n 2, 1) := by decide +kernel
theorem dX0_servedSum_4 : decode cX0_servedSum 4 = .ok (.iload_n 2, 1) := by decide +kernel
theorem dX0_servedSum_5 : decode cX0_servedSum 5 = .ok (.aload_n 0, 1) := by decide +kernel
theorem dX0_servedSum_6 : decode cX0_servedSum 6 = .ok (.getfield 34, 3) := by decide +kernel
theorem dX0_servedSum_9 : decode cX0_servedSum 9 = .ok (.if_icmp .ge 18, 3) := by decide +kernel
theorem dX0_servedSum_12 : decode cX0_servedSum 12 = .ok (.iload_n 1, 1) := by decide +kernel
theorem dX0_servedSum_13 : decode cX0_servedSum 13 = .ok (.aload_n 0, 1) := by decide +kernel
theorem dX0_servedSum_14 : decode cX0_servedSum 14 = .ok (.iload_n 2, 1) := by decide +kernel
theorem dX0_servedSum_15 : decode cX0_servedSum 15 = .ok (.iconst 4, 1) := by decide +kernel
theorem dX0_servedSum_16 : decode cX0_servedSum 16 = .ok (.invokevirtual 43, 3) := by decide +kernel
theorem dX0_servedSum_19 : decode cX0_servedSum 19 = .ok (.iadd, 1) := by decide +kernel
theorem dX0_servedSum_20 : decode cX0_servedSum 20 = .ok (.istore_n 1, 1) := by decide +kernel
theorem dX0_servedSum_21 : decode cX0_servedSum 21 = .ok (.iinc 2 1, 3) := by decide +kernel
theorem dX0_servedSum_24 : decode cX0_servedSum 24 = .ok (.goto (-20), 3) := by decide +kernel
theorem dX0_servedSum_27 : decode cX0_servedSum 27 = .ok (.iload_n 1, 1) := by decide +kernel
theorem dX0_servedSum_28 : decode cX0_servedSum 28 = .ok (.ireturn, 1) := by decide +kernel
theorem dX0_townsAimedAt_0 : decode cX0_townsAimedAt 0 = .ok (.iconst 0, 1) := by decide +kernel
theorem dX0_townsAimedAt_1 : decode cX0_townsAimedAt 1 = .ok (.istore_n 1, 1) := by decide +kernel
theorem dX0_townsAimedAt_2 : decode cX0_townsAimedAt 2 = .ok (.iconst 0, 1) := by decide +kernel
theorem dX0_townsAimedAt_3 : decode cX0_townsAimedAt 3 = .ok (.istore_n 2, 1) := by decide +kernel
theorem dX0_townsAimedAt_4 : decode cX0_townsAimedAt 4 = .ok (.iload_n 2, 1) := by decide +kernel
theorem dX0_townsAimedAt_5 : decode cX0_townsAimedAt 5 = .ok (.aload_n 0, 1) := by decide +kernel
theorem dX0_townsAimedAt_6 : decode cX0_townsAimedAt 6 = .ok (.getfield 37, 3) := by decide +kernel
theorem dX0_townsAimedAt_9 : decode cX0_townsAimedAt 9 = .ok (.if_icmp .ge 20, 3) := by decide +kernel
theorem dX0_townsAimedAt_12 : decode cX0_townsAimedAt 12 = .ok (.iload_n 1, 1) := by decide +kernel
theorem dX0_townsAimedAt_13 : decode cX0_townsAimedAt 13 = .ok (.iconst 1, 1) := by decide +kernel
theorem dX0_townsAimedAt_14 : decode cX0_townsAimedAt 14 = .ok (.aload_n 0, 1) := by decide +kernel
theorem dX0_townsAimedAt_15 : decode cX0_townsAimedAt 15 = .ok (.iload_n 2, 1) := by decide +kernel
theorem dX0_townsAimedAt_16 : decode cX0_townsAimedAt 16 = .ok (.iconst 1, 1) := by decide +kernel
theorem dX0_townsAimedAt_17 : decode cX0_townsAimedAt 17 = .ok (.invokevirtual 57, 3) := by decide +kernel
theorem dX0_townsAimedAt_20 : decode cX0_townsAimedAt 20 = .ok (.ishl, 1) := by decide +kernel
theorem dX0_townsAimedAt_21 : decode cX0_townsAimedAt 21 = .ok (.ior, 1) := by decide +kernel
theorem dX0_townsAimedAt_22 : decode cX0_townsAimedAt 22 = .ok (.istore_n 1, 1) := by decide +kernel
theorem dX0_townsAimedAt_23 : decode cX0_townsAimedAt 23 = .ok (.iinc 2 1, 3) := by decide +kernel
theorem dX0_townsAimedAt_26 : decode cX0_townsAimedAt 26 = .ok (.goto (-22), 3) := by decide +kernel
theorem dX0_townsAimedAt_29 : decode cX0_townsAimedAt 29 = .ok (.iload_n 1, 1) := by decide +kernel
theorem dX0_townsAimedAt_30 : decode cX0_townsAimedAt 30 = .ok (.ireturn, 1) := by decide +kernel
theorem dX0_townsBeenIn_0 : decode cX0_townsBeenIn 0 = .ok (.iconst 0, 1) := by decide +kernel
theorem dX0_townsBeenIn_1 : decode cX0_townsBeenIn 1 = .ok (.istore_n 1, 1) := by decide +kernel
theorem dX0_townsBeenIn_2 : decode cX0_townsBeenIn 2 = .ok (.iconst 0, 1) := by decide +kernel
theorem dX0_townsBeenIn_3 : decode cX0_townsBeenIn 3 = .ok (.istore_n 2, 1) := by decide +kernel
theorem dX0_townsBeenIn_4 : decode cX0_townsBeenIn 4 = .ok (.iload_n 2, 1) := by decide +kernel
theorem dX0_townsBeenIn_5 : decode cX0_townsBeenIn 5 = .ok (.aload_n 0, 1) := by decide +kernel
theorem dX0_townsBeenIn_6 : decode cX0_townsBeenIn 6 = .ok (.getfield 37, 3) := by decide +kernel
theorem dX0_townsBeenIn_9 : decode cX0_townsBeenIn 9 = .ok (.if_icmp .ge 18, 3) := by decide +kernel
theorem dX0_townsBeenIn_12 : decode cX0_townsBeenIn 12 = .ok (.iload_n 1, 1) := by decide +kernel
theorem dX0_townsBeenIn_13 : decode cX0_townsBeenIn 13 = .ok (.aload_n 0, 1) := by decide +kernel
theorem dX0_townsBeenIn_14 : decode cX0_townsBeenIn 14 = .ok (.iload_n 2, 1) := by decide +kernel
theorem dX0_townsBeenIn_15 : decode cX0_townsBeenIn 15 = .ok (.iconst 3, 1) := by decide +kernel
theorem dX0_townsBeenIn_16 : decode cX0_townsBeenIn 16 = .ok (.invokevirtual 57, 3) := by decide +kernel
theorem dX0_townsBeenIn_19 : decode cX0_townsBeenIn 19 = .ok (.ior, 1) := by decide +kernel
theorem dX0_townsBeenIn_20 : decode cX0_townsBeenIn 20 = .ok (.istore_n 1, 1) := by decide +kernel
theorem dX0_townsBeenIn_21 : decode cX0_townsBeenIn 21 = .ok (.iinc 2 1, 3) := by decide +kernel
theorem dX0_townsBeenIn_24 : decode cX0_townsBeenIn 24 = .ok (.goto (-20), 3) := by decide +kernel
theorem dX0_townsBeenIn_27 : decode cX0_townsBeenIn 27 = .ok (.iload_n 1, 1) := by decide +kernel
theorem dX0_townsBeenIn_28 : decode cX0_townsBeenIn 28 = .ok (.ireturn, 1) := by decide +kernel
theorem dX0_partedPairs_0 : decode cX0_partedPairs 0 = .ok (.iconst 0, 1) := by decide +kernel
theorem dX0_partedPairs_1 : decode cX0_partedPairs 1 = .ok (.istore_n 1, 1) := by decide +kernel
theorem dX0_partedPairs_2 : decode cX0_partedPairs 2 = .ok (.iconst 0, 1) := by decide +kernel
theorem dX0_partedPairs_3 : decode cX0_partedPairs 3 = .ok (.istore_n 2, 1) := by decide +kernel
theorem dX0_partedPairs_4 : decode cX0_partedPairs 4 = .ok (.iload_n 2, 1) := by decide +kernel
theorem dX0_partedPairs_5 : decode cX0_partedPairs 5 = .ok (.aload_n 0, 1) := by decide +kernel
theorem dX0_partedPairs_6 : decode cX0_partedPairs 6 = .ok (.getfield 37, 3) := by decide +kernel
theorem dX0_partedPairs_9 : decode cX0_partedPairs 9 = .ok (.if_icmp .ge 45, 3) := by decide +kernel
theorem dX0_partedPairs_12 : decode cX0_partedPairs 12 = .ok (.iload_n 2, 1) := by decide +kernel
theorem dX0_partedPairs_13 : decode cX0_partedPairs 13 = .ok (.iconst 1, 1) := by decide +kernel
theorem dX0_partedPairs_14 : decode cX0_partedPairs 14 = .ok (.iadd, 1) := by decide +kernel
theorem dX0_partedPairs_15 : decode cX0_partedPairs 15 = .ok (.istore_n 3, 1) := by decide +kernel
theorem dX0_partedPairs_16 : decode cX0_partedPairs 16 = .ok (.iload_n 3, 1) := by decide +kernel
theorem dX0_partedPairs_17 : decode cX0_partedPairs 17 = .ok (.aload_n 0, 1) := by decide +kernel
theorem dX0_partedPairs_18 : decode cX0_partedPairs 18 = .ok (.getfield 37, 3) := by decide +kernel
theorem dX0_partedPairs_21 : decode cX0_partedPairs 21 = .ok (.if_icmp .ge 27, 3) := by decide +kernel
theorem dX0_partedPairs_24 : decode cX0_partedPairs 24 = .ok (.aload_n 0, 1) := by decide +kernel
theorem dX0_partedPairs_25 : decode cX0_partedPairs 25 = .ok (.iload_n 2, 1) := by decide +kernel
theorem dX0_partedPairs_26 : decode cX0_partedPairs 26 = .ok (.iconst 1, 1) := by decide +kernel
theorem dX0_partedPairs_27 : decode cX0_partedPairs 27 = .ok (.invokevirtual 57, 3) := by decide +kernel
theorem dX0_partedPairs_30 : decode cX0_partedPairs 30 = .ok (.aload_n 0, 1) := by decide +kernel
theorem dX0_partedPairs_31 : decode cX0_partedPairs 31 = .ok (.iload_n 3, 1) := by decide +kernel
theorem dX0_partedPairs_32 : decode cX0_partedPairs 32 = .ok (.iconst 1, 1) := by decide +kernel
theorem dX0_partedPairs_33 : decode cX0_partedPairs 33 = .ok (.invokevirtual 57, 3) := by decide +kernel
theorem dX0_partedPairs_36 : decode cX0_partedPairs 36 = .ok (.if_icmp .eq 6, 3) := by decide +kernel
theorem dX0_partedPairs_39 : decode cX0_partedPairs 39 = .ok (.iinc 1 1, 3) := by decide +kernel
theorem dX0_partedPairs_42 : decode cX0_partedPairs 42 = .ok (.iinc 3 1, 3) := by decide +kernel
theorem dX0_partedPairs_45 : decode cX0_partedPairs 45 = .ok (.goto (-29), 3) := by decide +kernel
theorem dX0_partedPairs_48 : decode cX0_partedPairs 48 = .ok (.iinc 2 1, 3) := by decide +kernel
theorem dX0_partedPairs_51 : decode cX0_partedPairs 51 = .ok (.goto (-47), 3) := by decide +kernel
theorem dX0_partedPairs_54 : decode cX0_partedPairs 54 = .ok (.iload_n 1, 1) := by decide +kernel
theorem dX0_partedPairs_55 : decode cX0_partedPairs 55 = .ok (.ireturn, 1) := by decide +kernel
theorem dX0_dishesOnCard_0 : decode cX0_dishesOnCard 0 = .ok (.iconst 0, 1) := by decide +kernel
theorem dX0_dishesOnCard_1 : decode cX0_dishesOnCard 1 = .ok (.istore_n 1, 1) := by decide +kernel
theorem dX0_dishesOnCard_2 : decode cX0_dishesOnCard 2 = .ok (.iconst 0, 1) := by decide +kernel
theorem dX0_dishesOnCard_3 : decode cX0_dishesOnCard 3 = .ok (.istore_n 2, 1) := by decide +kernel
theorem dX0_dishesOnCard_4 : decode cX0_dishesOnCard 4 = .ok (.iload_n 2, 1) := by decide +kernel
theorem dX0_dishesOnCard_5 : decode cX0_dishesOnCard 5 = .ok (.aload_n 0, 1) := by decide +kernel
theorem dX0_dishesOnCard_6 : decode cX0_dishesOnCard 6 = .ok (.getfield 34, 3) := by decide +kernel
theorem dX0_dishesOnCard_9 : decode cX0_dishesOnCard 9 = .ok (.if_icmp .ge 23, 3) := by decide +kernel
theorem dX0_dishesOnCard_12 : decode cX0_dishesOnCard 12 = .ok (.aload_n 0, 1) := by decide +kernel
theorem dX0_dishesOnCard_13 : decode cX0_dishesOnCard 13 = .ok (.iload_n 2, 1) := by decide +kernel
theorem dX0_dishesOnCard_14 : decode cX0_dishesOnCard 14 = .ok (.invokevirtual 109, 3) := by decide +kernel
theorem dX0_dishesOnCard_17 : decode cX0_dishesOnCard 17 = .ok (.ifCond .ne 9, 3) := by decide +kernel
theorem dX0_dishesOnCard_20 : decode cX0_dishesOnCard 20 = .ok (.iload_n 1, 1) := by decide +kernel
theorem dX0_dishesOnCard_21 : decode cX0_dishesOnCard 21 = .ok (.iconst 1, 1) := by decide +kernel
theorem dX0_dishesOnCard_22 : decode cX0_dishesOnCard 22 = .ok (.iload_n 2, 1) := by decide +kernel
theorem dX0_dishesOnCard_23 : decode cX0_dishesOnCard 23 = .ok (.ishl, 1) := by decide +kernel
theorem dX0_dishesOnCard_24 : decode cX0_dishesOnCard 24 = .ok (.ior, 1) := by decide +kernel
theorem dX0_dishesOnCard_25 : decode cX0_dishesOnCard 25 = .ok (.istore_n 1, 1) := by decide +kernel
theorem dX0_dishesOnCard_26 : decode cX0_dishesOnCard 26 = .ok (.iinc 2 1, 3) := by decide +kernel
theorem dX0_dishesOnCard_29 : decode cX0_dishesOnCard 29 = .ok (.goto (-25), 3) := by decide +kernel
theorem dX0_dishesOnCard_32 : decode cX0_dishesOnCard 32 = .ok (.iload_n 1, 1) := by decide +kernel
theorem dX0_dishesOnCard_33 : decode cX0_dishesOnCard 33 = .ok (.ireturn, 1) := by decide +kernel
theorem dX0_deepestInDebt_0 : decode cX0_deepestInDebt 0 = .ok (.iconst (-1), 1) := by decide +kernel
theorem dX0_deepestInDebt_1 : decode cX0_deepestInDebt 1 = .ok (.istore_n 1, 1) := by decide +kernel
theorem dX0_deepestInDebt_2 : decode cX0_deepestInDebt 2 = .ok (.iconst (-1), 1) := by decide +kernel
theorem dX0_deepestInDebt_3 : decode cX0_deepestInDebt 3 = .ok (.istore_n 2, 1) := by decide +kernel
theorem dX0_deepestInDebt_4 : decode cX0_deepestInDebt 4 = .ok (.iconst 0, 1) := by decide +kernel
theorem dX0_deepestInDebt_5 : decode cX0_deepestInDebt 5 = .ok (.istore_n 3, 1) := by decide +kernel
theorem dX0_deepestInDebt_6 : decode cX0_deepestInDebt 6 = .ok (.iload_n 3, 1) := by decide +kernel
theorem dX0_deepestInDebt_7 : decode cX0_deepestInDebt 7 = .ok (.aload_n 0, 1) := by decide +kernel
theorem dX0_deepestInDebt_8 : decode cX0_deepestInDebt 8 = .ok (.getfield 37, 3) := by decide +kernel
theorem dX0_deepestInDebt_11 : decode cX0_deepestInDebt 11 = .ok (.if_icmp .ge 28, 3) := by decide +kernel
theorem dX0_deepestInDebt_14 : decode cX0_deepestInDebt 14 = .ok (.aload_n 0, 1) := by decide +kernel
theorem dX0_deepestInDebt_15 : decode cX0_deepestInDebt 15 = .ok (.iload_n 3, 1) := by decide +kernel
theorem dX0_deepestInDebt_16 : decode cX0_deepestInDebt 16 = .ok (.iconst 2, 1) := by decide +kernel
theorem dX0_deepestInDebt_17 : decode cX0_deepestInDebt 17 = .ok (.invokevirtual 57, 3) := by decide +kernel
theorem dX0_deepestInDebt_20 : decode cX0_deepestInDebt 20 = .ok (.iload_n 2, 1) := by decide +kernel
theorem dX0_deepestInDebt_21 : decode cX0_deepestInDebt 21 = .ok (.if_icmp .le 12, 3) := by decide +kernel
theorem dX0_deepestInDebt_24 : decode cX0_deepestInDebt 24 = .ok (.aload_n 0, 1) := by decide +kernel
theorem dX0_deepestInDebt_25 : decode cX0_deepestInDebt 25 = .ok (.iload_n 3, 1) := by decide +kernel
theorem dX0_deepestInDebt_26 : decode cX0_deepestInDebt 26 = .ok (.iconst 2, 1) := by decide +kernel
theorem dX0_deepestInDebt_27 : decode cX0_deepestInDebt 27 = .ok (.invokevirtual 57, 3) := by decide +kernel
theorem dX0_deepestInDebt_30 : decode cX0_deepestInDebt 30 = .ok (.istore_n 2, 1) := by decide +kernel
theorem dX0_deepestInDebt_31 : decode cX0_deepestInDebt 31 = .ok (.iload_n 3, 1) := by decide +kernel
theorem dX0_deepestInDebt_32 : decode cX0_deepestInDebt 32 = .ok (.istore_n 1, 1) := by decide +kernel
theorem dX0_deepestInDebt_33 : decode cX0_deepestInDebt 33 = .ok (.iinc 3 1, 3) := by decide +kernel
theorem dX0_deepestInDebt_36 : decode cX0_deepestInDebt 36 = .ok (.goto (-30), 3) := by decide +kernel
theorem dX0_deepestInDebt_39 : decode cX0_deepestInDebt 39 = .ok (.iload_n 1, 1) := by decide +kernel
theorem dX0_deepestInDebt_40 : decode cX0_deepestInDebt 40 = .ok (.ireturn, 1) := by decide +kernel
theorem dX0_spotsInUse_0 : decode cX0_spotsInUse 0 = .ok (.iconst 0, 1) := by decide +kernel
theorem dX0_spotsInUse_1 : decode cX0_spotsInUse 1 = .ok (.istore_n 1, 1) := by decide +kernel
theorem dX0_spotsInUse_2 : decode cX0_spotsInUse 2 = .ok (.iconst 0, 1) := by decide +kernel
theorem dX0_spotsInUse_3 : decode cX0_spotsInUse 3 = .ok (.istore_n 2, 1) := by decide +kernel
theorem dX0_spotsInUse_4 : decode cX0_spotsInUse 4 = .ok (.iload_n 2, 1) := by decide +kernel
theorem dX0_spotsInUse_5 : decode cX0_spotsInUse 5 = .ok (.bipush 10, 2) := by decide +kernel
theorem dX0_spotsInUse_7 : decode cX0_spotsInUse 7 = .ok (.if_icmp .ge 22, 3) := by decide +kernel
theorem dX0_spotsInUse_10 : decode cX0_spotsInUse 10 = .ok (.aload_n 0, 1) := by decide +kernel
theorem dX0_spotsInUse_11 : decode cX0_spotsInUse 11 = .ok (.getfield 21, 3) := by decide +kernel
theorem dX0_spotsInUse_14 : decode cX0_spotsInUse 14 = .ok (.iload_n 2, 1) := by decide +kernel
theorem dX0_spotsInUse_15 : decode cX0_spotsInUse 15 = .ok (.iaload, 1) := by decide +kernel
theorem dX0_spotsInUse_16 : decode cX0_spotsInUse 16 = .ok (.iconst (-1), 1) := by decide +kernel
theorem dX0_spotsInUse_17 : decode cX0_spotsInUse 17 = .ok (.if_icmp .eq 6, 3) := by decide +kernel
theorem dX0_spotsInUse_20 : decode cX0_spotsInUse 20 = .ok (.iinc 1 1, 3) := by decide +kernel
theorem dX0_spotsInUse_23 : decode cX0_spotsInUse 23 = .ok (.iinc 2 1, 3) := by decide +kernel
theorem dX0_spotsInUse_26 : decode cX0_spotsInUse 26 = .ok (.goto (-22), 3) := by decide +kernel
theorem dX0_spotsInUse_29 : decode cX0_spotsInUse 29 = .ok (.iload_n 1, 1) := by decide +kernel
theorem dX0_spotsInUse_30 : decode cX0_spotsInUse 30 = .ok (.ireturn, 1) := by decide +kernel
theorem dX1_init_0 : decode cX1_init 0 = .ok (.aload_n 0, 1) := by decide +kernel
theorem dX1_init_1 : decode cX1_init 1 = .ok (.invokespecial 1, 3) := by decide +kernel
theorem dX1_init_4 : decode cX1_init 4 = .ok (.aload_n 0, 1) := by decide +kernel
theorem dX1_init_5 : decode cX1_init 5 = .ok (.bipush 40, 2) := by decide +kernel
theorem dX1_init_7 : decode cX1_init 7 = .ok (.newarray .int, 2) := by decide +kernel
theorem dX1_init_9 : decode cX1_init 9 = .ok (.putfield 9, 3) := by decide +kernel
theorem dX1_init_12 : decode cX1_init 12 = .ok (.return_, 1) := by decide +kernel
theorem dX1_isMissing_0 : decode cX1_isMissing 0 = .ok (.aload_n 0, 1) := by decide +kernel
theorem dX1_isMissing_1 : decode cX1_isMissing 1 = .ok (.getfield 13, 3) := by decide +kernel
theorem dX1_isMissing_4 : decode cX1_isMissing 4 = .ok (.ifCond .ne 7, 3) := by decide +kernel
theorem dX1_isMissing_7 : decode cX1_isMissing 7 = .ok (.iconst 1, 1) := by decide +kernel
theorem dX1_isMissing_8 : decode cX1_isMissing 8 = .ok (.goto 4, 3) := by decide +kernel
theorem dX1_isMissing_11 : decode cX1_isMissing 11 = .ok (.iconst 0, 1) := by decide +kernel
theorem dX1_isMissing_12 : decode cX1_isMissing 12 = .ok (.ireturn, 1) := by decide +kernel
theorem dX1_start_0 : decode cX1_start 0 = .ok (.aload_n 0, 1) := by decide +kernel
theorem dX1_start_1 : decode cX1_start 1 = .ok (.iload_n 1, 1) := by decide +kernel
theorem dX1_start_2 : decode cX1_start 2 = .ok (.putfield 13, 3) := by decide +kernel
theorem dX1_start_5 : decode cX1_start 5 = .ok (.aload_n 0, 1) := by decide +kernel
theorem dX1_start_6 : decode cX1_start 6 = .ok (.iload_n 2, 1) := by decide +kernel
theorem dX1_start_7 : decode cX1_start 7 = .ok (.putfield 17, 3) := by decide +kernel
theorem dX1_start_10 : decode cX1_start 10 = .ok (.iconst 0, 1) := by decide +kernel
theorem dX1_start_11 : decode cX1_start 11 = .ok (.istore_n 3, 1) := by decide +kernel
theorem dX1_start_12 : decode cX1_start 12 = .ok (.iload_n 3, 1) := by decide +kernel
theorem dX1_start_13 : decode cX1_start 13 = .ok (.bipush 40, 2) := by decide +kernel
theorem dX1_start_15 : decode cX1_start 15 = .ok (.if_icmp .ge 16, 3) := by decide +kernel
theorem dX1_start_18 : decode cX1_start 18 = .ok (.aload_n 0, 1) := by decide +kernel
theorem dX1_start_19 : decode cX1_start 19 = .ok (.getfield 9, 3) := by decide +kernel
theorem dX1_start_22 : decode cX1_start 22 = .ok (.iload_n 3, 1) := by decide +kernel
theorem dX1_start_23 : decode cX1_start 23 = .ok (.iconst 0, 1) := by decide +kernel
theorem dX1_start_24 : decode cX1_start 24 = .ok (.iastore, 1) := by decide +kernel
theorem dX1_start_25 : decode cX1_start 25 = .ok (.iinc 3 1, 3) := by decide +kernel
theorem dX1_start_28 : decode cX1_start 28 = .ok (.goto (-16), 3) := by decide +kernel
theorem dX1_start_31 : decode cX1_start 31 = .ok (.return_, 1) := by decide +kernel
theorem dX1_put_0 : decode cX1_put 0 = .ok (.aload_n 0, 1) := by decide +kernel
theorem dX1_put_1 : decode cX1_put 1 = .ok (.getfield 13, 3) := by decide +kernel
theorem dX1_put_4 : decode cX1_put 4 = .ok (.bipush 8, 2) := by decide +kernel
theorem dX1_put_6 : decode cX1_put 6 = .ok (.if_icmp .ne 14, 3) := by decide +kernel
theorem dX1_put_9 : decode cX1_put 9 = .ok (.aload_n 0, 1) := by decide +kernel
theorem dX1_put_10 : decode cX1_put 10 = .ok (.getfield 9, 3) := by decide +kernel
theorem dX1_put_13 : decode cX1_put 13 = .ok (.iload_n 1, 1) := by decide +kernel
theorem dX1_put_14 : decode cX1_put 14 = .ok (.iload_n 2, 1) := by decide +kernel
theorem dX1_put_15 : decode cX1_put 15 = .ok (.i2b, 1) := by decide +kernel
theorem dX1_put_16 : decode cX1_put 16 = .ok (.iastore, 1) := by decide +kernel
theorem dX1_put_17 : decode cX1_put 17 = .ok (.goto 30, 3) := by decide +kernel
theorem dX1_put_20 : decode cX1_put 20 = .ok (.aload_n 0, 1) := by decide +kernel
theorem dX1_put_21 : decode cX1_put 21 = .ok (.getfield 13, 3) := by decide +kernel
theorem dX1_put_24 : decode cX1_put 24 = .ok (.bipush 16, 2) := by decide +kernel
theorem dX1_put_26 : decode cX1_put 26 = .ok (.if_icmp .ne 14, 3) := by decide +kernel
theorem dX1_put_29 : decode cX1_put 29 = .ok (.aload_n 0, 1) := by decide +kernel
theorem dX1_put_30 : decode cX1_put 30 = .ok (.getfield 9, 3) := by decide +kernel
theorem dX1_put_33 : decode cX1_put 33 = .ok (.iload_n 1, 1) := by decide +kernel
theorem dX1_put_34 : decode cX1_put 34 = .ok (.iload_n 2, 1) := by decide +kernel
theorem dX1_put_35 : decode cX1_put 35 = .ok (.i2s, 1) := by decide +kernel
theorem dX1_put_36 : decode cX1_put 36 = .ok (.iastore, 1) := by decide +kernel
theorem dX1_put_37 : decode cX1_put 37 = .ok (.goto 10, 3) := by decide +kernel
theorem dX1_put_40 : decode cX1_put 40 = .ok (.aload_n 0, 1) := by decide +kernel
theorem dX1_put_41 : decode cX1_put 41 = .ok (.getfield 9, 3) := by decide +kernel
theorem dX1_put_44 : decode cX1_put 44 = .ok (.iload_n 1, 1) := by decide +kernel
theorem dX1_put_45 : decode cX1_put 45 = .ok (.iload_n 2, 1) := by decide +kernel
theorem dX1_put_46 : decode cX1_put 46 = .ok (.iastore, 1) := by decide +kernel
theorem dX1_put_47 : decode cX1_put 47 = .ok (.return_, 1) := by decide +kernel
theorem dX1_hasRange_0 : decode cX1_hasRange 0 = .ok (.iload_n 2, 1) := by decide +kernel
theorem dX1_hasRange_1 : decode cX1_hasRange 1 = .ok (.ifCond .lt 29, 3) := by decide +kernel
theorem dX1_hasRange_4 : decode cX1_hasRange 4 = .ok (.iload_n 2, 1) := by decide +kernel
theorem dX1_hasRange_5 : decode cX1_hasRange 5 = .ok (.aload_n 0, 1) := by decide +kernel
theorem dX1_hasRange_6 : decode cX1_hasRange 6 = .ok (.getfield 17, 3) := by decide +kernel
theorem dX1_hasRange_9 : decode cX1_hasRange 9 = .ok (.if_icmp .gt 21, 3) := by decide +kernel
theorem dX1_hasRange_12 : decode cX1_hasRange 12 = .ok (.iload_n 1, 1) := by decide +kernel
theorem dX1_hasRange_13 : decode cX1_hasRange 13 = .ok (.ifCond .lt 17, 3) := by decide +kernel
theorem dX1_hasRange_16 : decode cX1_hasRange 16 = .ok (.iload_n 1, 1) := by decide +kernel
theorem dX1_hasRange_17 : decode cX1_hasRange 17 = .ok (.aload_n 0, 1) := by decide +kernel
theorem dX1_hasRange_18 : decode cX1_hasRange 18 = .ok (.getfield 17, 3) := by decide +kernel
theorem dX1_hasRange_21 : decode cX1_hasRange 21 = .ok (.iload_n 2, 1) := by decide +kernel
theorem dX1_hasRange_22 : decode cX1_hasRange 22 = .ok (.isub, 1) := by decide +kernel
theorem dX1_hasRange_23 : decode cX1_hasRange 23 = .ok (.if_icmp .gt 7, 3) := by decide +kernel
theorem dX1_hasRange_26 : decode cX1_hasRange 26 = .ok (.iconst 1, 1) := by decide +kernel
theorem dX1_hasRange_27 : decode cX1_hasRange 27 = .ok (.goto 4, 3) := by decide +kernel
theorem dX1_hasRange_30 : decode cX1_hasRange 30 = .ok (.iconst 0, 1) := by decide +kernel
theorem dX1_hasRange_31 : decode cX1_hasRange 31 = .ok (.ireturn, 1) := by decide +kernel
theorem dX2_init_0 : decode cX2_init 0 = .ok (.aload_n 0, 1) := by decide +kernel
theorem dX2_init_1 : decode cX2_init 1 = .ok (.invokespecial 1, 3) := by decide +kernel
theorem dX2_init_4 : decode cX2_init 4 = .ok (.aload_n 0, 1) := by decide +kernel
theorem dX2_init_5 : decode cX2_init 5 = .ok (.bipush 120, 2) := by decide +kernel
theorem dX2_init_7 : decode cX2_init 7 = .ok (.newarray .byte, 2) := by decide +kernel
theorem dX2_init_9 : decode cX2_init 9 = .ok (.putfield 9, 3) := by decide +kernel
theorem dX2_init_12 : decode cX2_init 12 = .ok (.return_, 1) := by decide +kernel
theorem dX2_addByte_0 : decode cX2_addByte 0 = .ok (.aload_n 0, 1) := by decide +kernel
theorem dX2_addByte_1 : decode cX2_addByte 1 = .ok (.getfield 13, 3) := by decide +kernel
theorem dX2_addByte_4 : decode cX2_addByte 4 = .ok (.bipush 120, 2) := by decide +kernel
theorem dX2_addByte_6 : decode cX2_addByte 6 = .ok (.if_icmp .ge 23, 3) := by decide +kernel
theorem dX2_addByte_9 : decode cX2_addByte 9 = .ok (.aload_n 0, 1) := by decide +kernel
theorem dX2_addByte_10 : decode cX2_addByte 10 = .ok (.getfield 9, 3) := by decide +kernel
theorem dX2_addByte_13 : decode cX2_addByte 13 = .ok (.aload_n 0, 1) := by decide +kernel
theorem dX2_addByte_14 : decode cX2_addByte 14 = .ok (.getfield 13, 3) := by decide +kernel
theorem dX2_addByte_17 : decode cX2_addByte 17 = .ok (.iload_n 1, 1) := by decide +kernel
theorem dX2_addByte_18 : decode cX2_addByte 18 = .ok (.bastore, 1) := by decide +kernel
theorem dX2_addByte_19 : decode cX2_addByte 19 = .ok (.aload_n 0, 1) := by decide +kernel
theorem dX2_addByte_20 : decode cX2_addByte 20 = .ok (.dup, 1) := by decide +kernel
theorem dX2_addByte_21 : decode cX2_addByte 21 = .ok (.getfield 13, 3) := by decide +kernel
theorem dX2_addByte_24 : decode cX2_addByte 24 = .ok (.iconst 1, 1) := by decide +kernel
theorem dX2_addByte_25 : decode cX2_addByte 25 = .ok (.iadd, 1) := by decide +kernel
theorem dX2_addByte_26 : decode cX2_addByte 26 = .ok (.putfield 13, 3) := by decide +kernel
theorem dX2_addByte_29 : decode cX2_addByte 29 = .ok (.return_, 1) := by decide +kernel
theorem dX2_readText_0 : decode cX2_readText 0 = .ok (.aload_n 0, 1) := by decide +kernel
theorem dX2_readText_1 : decode cX2_readText 1 = .ok (.iconst 0, 1) := by decide +kernel
theorem dX2_readText_2 : decode cX2_readText 2 = .ok (.putfield 17, 3) := by decide +kernel
theorem dX2_readText_5 : decode cX2_readText 5 = .ok (.aload_n 0, 1) := by decide +kernel
theorem dX2_readText_6 : decode cX2_readText 6 = .ok (.invokevirtual 20, 3) := by decide +kernel
theorem dX2_readText_9 : decode cX2_readText 9 = .ok (.iconst 1, 1) := by decide +kernel
theorem dX2_readText_10 : decode cX2_readText 10 = .ok (.istore_n 2, 1) := by decide +kernel
theorem dX2_readText_11 : decode cX2_readText 11 = .ok (.iload_n 2, 1) := by decide +kernel
theorem dX2_readText_12 : decode cX2_readText 12 = .ok (.bipush 120, 2) := by decide +kernel
theorem dX2_readText_14 : decode cX2_readText 14 = .ok (.if_icmp .gt 44, 3) := by decide +kernel
theorem dX2_readText_17 : decode cX2_readText 17 = .ok (.aload_n 0, 1) := by decide +kernel
theorem dX2_readText_18 : decode cX2_readText 18 = .ok (.aload_n 1, 1) := by decide +kernel
theorem dX2_readText_19 : decode cX2_readText 19 = .ok (.invokevirtual 23, 3) := by decide +kernel
theorem dX2_readText_22 : decode cX2_readText 22 = .ok (.ifCond .ne 6, 3) := by decide +kernel
theorem dX2_readText_25 : decode cX2_readText 25 = .ok (.goto 33, 3) := by decide +kernel
theorem dX2_readText_28 : decode cX2_readText 28 = .ok (.aload_n 0, 1) := by decide +kernel
theorem dX2_readText_29 : decode cX2_readText 29 = .ok (.getfield 27, 3) := by decide +kernel
theorem dX2_readText_32 : decode cX2_readText 32 = .ok (.ifCond .ne 5, 3) := by decide +kernel
theorem dX2_readText_35 : decode cX2_readText 35 = .ok (.iload_n 2, 1) := by decide +kernel
theorem dX2_readText_36 : decode cX2_readText 36 = .ok (.ireturn, 1) := by decide +kernel
theorem dX2_readText_37 : decode cX2_readText 37 = .ok (.aload_n 0, 1) := by decide +kernel
theorem dX2_readText_38 : decode cX2_readText 38 = .ok (.getfield 27, 3) := by decide +kernel
theorem dX2_readText_41 : decode cX2_readText 41 = .ok (.iconst 3, 1) := by decide +kernel
theorem dX2_readText_42 : decode cX2_readText 42 = .ok (.if_icmp .eq 6, 3) := by decide +kernel
theorem dX2_readText_45 : decode cX2_readText 45 = .ok (.goto 13, 3) := by decide +kernel
theorem dX2_readText_48 : decode cX2_readText 48 = .ok (.aload_n 0, 1) := by decide +kernel
theorem dX2_readText_49 : decode cX2_readText 49 = .ok (.invokevirtual 20, 3) := by decide +kernel
theorem dX2_readText_52 : decode cX2_readText 52 = .ok (.iinc 2 1, 3) := by decide +kernel
theorem dX2_readText_55 : decode cX2_readText 55 = .ok (.goto (-44), 3) := by decide +kernel
theorem dX2_readText_58 : decode cX2_readText 58 = .ok (.iconst (-1), 1) := by decide +kernel
theorem dX2_readText_59 : decode cX2_readText 59 = .ok (.aload_n 0, 1) := by decide +kernel
theorem dX2_readText_60 : decode cX2_readText 60 = .ok (.getfield 30, 3) := by decide +kernel
theorem dX2_readText_63 : decode cX2_readText 63 = .ok (.isub, 1) := by decide +kernel
theorem dX2_readText_64 : decode cX2_readText 64 = .ok (.ireturn, 1) := by decide +kernel
theorem dX2_readItem_0 : decode cX2_readItem 0 = .ok (.aload_n 0, 1) := by decide +kernel
theorem dX2_readItem_1 : decode cX2_readItem 1 = .ok (.ldc 33, 2) := by decide +kernel
theorem dX2_readItem_3 : decode cX2_readItem 3 = .ok (.invokevirtual 35, 3) := by decide +kernel
theorem dX2_readItem_6 : decode cX2_readItem 6 = .ok (.ifCond .eq 9, 3) := by decide +kernel
theorem dX2_readItem_9 : decode cX2_readItem 9 = .ok (.aload_n 0, 1) := by decide +kernel
theorem dX2_readItem_10 : decode cX2_readItem 10 = .ok (.aload_n 1, 1) := by decide +kernel
theorem dX2_readItem_11 : decode cX2_readItem 11 = .ok (.invokevirtual 39, 3) := by decide +kernel
theorem dX2_readItem_14 : decode cX2_readItem 14 = .ok (.ireturn, 1) := by decide +kernel
theorem dX2_readItem_15 : decode cX2_readItem 15 = .ok (.aload_n 0, 1) := by decide +kernel
theorem dX2_readItem_16 : decode cX2_readItem 16 = .ok (.ldc 42, 2) := by decide +kernel
theorem dX2_readItem_18 : decode cX2_readItem 18 = .ok (.invokevirtual 35, 3) := by decide +kernel
theorem dX2_readItem_21 : decode cX2_readItem 21 = .ok (.ifCond .eq 9, 3) := by decide +kernel
theorem dX2_readItem_24 : decode cX2_readItem 24 = .ok (.aload_n 0, 1) := by decide +kernel
theorem dX2_readItem_25 : decode cX2_readItem 25 = .ok (.aload_n 1, 1) := by decide +kernel
theorem dX2_readItem_26 : decode cX2_readItem 26 = .ok (.invokevirtual 44, 3) := by decide +kernel
theorem dX2_readItem_29 : decode cX2_readItem 29 = .ok (.ireturn, 1) := by decide +kernel
theorem dX2_readItem_30 : decode cX2_readItem 30 = .ok (.iconst 0, 1) := by decide +kernel
theorem dX2_readItem_31 : decode cX2_readItem 31 = .ok (.istore_n 2, 1) := by decide +kernel
theorem dX2_readItem_32 : decode cX2_readItem 32 = .ok (.iload_n 2, 1) := by decide +kernel
theorem dX2_readItem_33 : decode cX2_readItem 33 = .ok (.bipush 7, 2) := by decide +kernel
theorem dX2_readItem_35 : decode cX2_readItem 35 = .ok (.if_icmp .ge 27, 3) := by decide +kernel
theorem dX2_readItem_38 : decode cX2_readItem 38 = .ok (.aload_n 0, 1) := by decide +kernel
theorem dX2_readItem_39 : decode cX2_readItem 39 = .ok (.iload_n 2, 1) := by decide +kernel
theorem dX2_readItem_40 : decode cX2_readItem 40 = .ok (.invokestatic 49, 3) := by decide +kernel
theorem dX2_readItem_43 : decode cX2_readItem 43 = .ok (.invokevirtual 35, 3) := by decide +kernel
theorem dX2_readItem_46 : decode cX2_readItem 46 = .ok (.ifCond .eq 10, 3) := by decide +kernel
theorem dX2_readItem_49 : decode cX2_readItem 49 = .ok (.aload_n 0, 1) := by decide +kernel
theorem dX2_readItem_50 : decode cX2_readItem 50 = .ok (.aload_n 1, 1) := by decide +kernel
theorem dX2_readItem_51 : decode cX2_readItem 51 = .ok (.iload_n 2, 1) := by decide +kernel
theorem dX2_readItem_52 : decode cX2_readItem 52 = .ok (.invokevirtual 53, 3) := by decide +kernel
theorem dX2_readItem_55 : decode cX2_readItem 55 = .ok (.ireturn, 1) := by decide +kernel
theorem dX2_readItem_56 : decode cX2_readItem 56 = .ok (.iinc 2 1, 3) := by decide +kernel
theorem dX2_readItem_59 : decode cX2_readItem 59 = .ok (.goto (-27), 3) := by decide +kernel
theorem dX2_readItem_62 : decode cX2_readItem 62 = .ok (.iconst 0, 1) := by decide +kernel
theorem dX2_readItem_63 : decode cX2_readItem 63 = .ok (.ireturn, 1) := by decide +kernel
theorem dX2_readDish_0 : decode cX2_readDish 0 = .ok (.aload_n 1, 1) := by decide +kernel
theorem dX2_readDish_1 : decode cX2_readDish 1 = .ok (.getfield 57, 3) := by decide +kernel
theorem dX2_readDish_4 : decode cX2_readDish 4 = .ok (.bipush 8, 2) := by decide +kernel
theorem dX2_readDish_6 : decode cX2_readDish 6 = .ok (.if_icmp .lt 5, 3) := by decide +kernel
theorem dX2_readDish_9 : decode cX2_readDish 9 = .ok (.iconst 0, 1) := by decide +kernel
theorem dX2_readDish_10 : decode cX2_readDish 10 = .ok (.ireturn, 1) := by decide +kernel
theorem dX2_readDish_11 : decode cX2_readDish 11 = .ok (.aload_n 0, 1) := by decide +kernel
theorem dX2_readDish_12 : decode cX2_readDish 12 = .ok (.invokevirtual 20, 3) := by decide +kernel
theorem dX2_readDish_15 : decode cX2_readDish 15 = .ok (.aload_n 0, 1) := by decide +kernel
theorem dX2_readDish_16 : decode cX2_readDish 16 = .ok (.bipush 11, 2) := by decide +kernel
theorem dX2_readDish_18 : decode cX2_readDish 18 = .ok (.invokevirtual 60, 3) := by decide +kernel
theorem dX2_readDish_21 : decode cX2_readDish 21 = .ok (.istore_n 3, 1) := by decide +kernel
theorem dX2_readDish_22 : decode cX2_readDish 22 = .ok (.iload_n 3, 1) := by decide +kernel
theorem dX2_readDish_23 : decode cX2_readDish 23 = .ok (.ifCond .ge 7, 3) := by decide +kernel
theorem dX2_readDish_26 : decode cX2_readDish 26 = .ok (.iconst (-1), 1) := by decide +kernel
theorem dX2_readDish_27 : decode cX2_readDish 27 = .ok (.goto 9, 3) := by decide +kernel
theorem dX2_readDish_30 : decode cX2_readDish 30 = .ok (.aload_n 0, 1) := by decide +kernel
theorem dX2_readDish_31 : decode cX2_readDish 31 = .ok (.bipush 11, 2) := by decide +kernel
theorem dX2_readDish_33 : decode cX2_readDish 33 = .ok (.invokevirtual 60, 3) := by decide +kernel
theorem dX2_readDish_36 : decode cX2_readDish 36 = .ok (.istore 4, 2) := by decide +kernel
theorem dX2_readDish_38 : decode cX2_readDish 38 = .ok (.iload 4, 2) := by decide +kernel
theorem dX2_readDish_40 : decode cX2_readDish 40 = .ok (.ifCond .ge 5, 3) := by decide +kernel
theorem dX2_readDish_43 : decode cX2_readDish 43 = .ok (.iconst 0, 1) := by decide +kernel
theorem dX2_readDish_44 : decode cX2_readDish 44 = .ok (.ireturn, 1) := by decide +kernel
theorem dX2_readDish_45 : decode cX2_readDish 45 = .ok (.aload_n 0, 1) := by decide +kernel
theorem dX2_readDish_46 : decode cX2_readDish 46 = .ok (.ldc 64, 2) := by decide +kernel
theorem dX2_readDish_48 : decode cX2_readDish 48 = .ok (.invokevirtual 66, 3) := by decide +kernel
theorem dX2_readDish_51 : decode cX2_readDish 51 = .ok (.ifCond .eq 12, 3) := by decide +kernel
theorem dX2_readDish_54 : decode cX2_readDish 54 = .ok (.aload_n 0, 1) := by decide +kernel
theorem dX2_readDish_55 : decode cX2_readDish 55 = .ok (.bipush 99, 2) := by decide +kernel
theorem dX2_readDish_57 : decode cX2_readDish 57 = .ok (.invokevirtual 60, 3) := by decide +kernel
theorem dX2_readDish_60 : decode cX2_readDish 60 = .ok (.goto 5, 3) := by decide +kernel
theorem dX2_readDish_63 : decode cX2_readDish 63 = .ok (.bipush 10, 2) := by decide +kernel
theorem dX2_readDish_65 : decode cX2_readDish 65 = .ok (.istore 5, 2) := by decide +kernel
theorem dX2_readDish_67 : decode cX2_readDish 67 = .ok (.iload 5, 2) := by decide +kernel
theorem dX2_readDish_69 : decode cX2_readDish 69 = .ok (.ifCond .ge 5, 3) := by decide +kernel
theorem dX2_readDish_72 : decode cX2_readDish 72 = .ok (.iconst 0, 1) := by decide +kernel
theorem dX2_readDish_73 : decode cX2_readDish 73 = .ok (.ireturn, 1) := by decide +kernel
theorem dX2_readDish_74 : decode cX2_readDish 74 = .ok (.aload_n 0, 1) := by decide +kernel
theorem dX2_readDish_75 : decode cX2_readDish 75 = .ok (.ldc 69, 2) := by decide +kernel
theorem dX2_readDish_77 : decode cX2_readDish 77 = .ok (.invokevirtual 66, 3) := by decide +kernel
theorem dX2_readDish_80 : decode cX2_readDish 80 = .ok (.ifCond .eq 13, 3) := by decide +kernel
theorem dX2_readDish_83 : decode cX2_readDish 83 = .ok (.aload_n 0, 1) := by decide +kernel
theorem dX2_readDish_84 : decode cX2_readDish 84 = .ok (.sipush 9999, 3) := by decide +kernel
theorem dX2_readDish_87 : decode cX2_readDish 87 = .ok (.invokevirtual 60, 3) := by decide +kernel
theorem dX2_readDish_90 : decode cX2_readDish 90 = .ok (.goto 4, 3) := by decide +kernel
theorem dX2_readDish_93 : decode cX2_readDish 93 = .ok (.iconst 0, 1) := by decide +kernel
theorem dX2_readDish_94 : decode cX2_readDish 94 = .ok (.istore 6, 2) := by decide +kernel
theorem dX2_readDish_96 : decode cX2_readDish 96 = .ok (.iload 6, 2) := by decide +kernel
theorem dX2_readDish_98 : decode cX2_readDish 98 = .ok (.ifCond .ge 5, 3) := by decide +kernel
theorem dX2_readDish_101 : decode cX2_readDish 101 = .ok (.iconst 0, 1) := by decide +kernel
theorem dX2_readDish_102 : decode cX2_readDish 102 = .ok (.ireturn, 1) := by decide +kernel
theorem dX2_readDish_103 : decode cX2_readDish 103 = .ok (.aload_n 1, 1) := by decide +kernel
theorem dX2_readDish_104 : decode cX2_readDish 104 = .ok (.iload_n 2, 1) := by decide +kernel
theorem dX2_readDish_105 : decode cX2_readDish 105 = .ok (.iload_n 3, 1) := by decide +kernel
theorem dX2_readDish_106 : decode cX2_readDish 106 = .ok (.iload 4, 2) := by decide +kernel
theorem dX2_readDish_108 : decode cX2_readDish 108 = .ok (.invokevirtual 71, 3) := by decide +kernel
theorem dX2_readDish_111 : decode cX2_readDish 111 = .ok (.istore 7, 2) := by decide +kernel
theorem dX2_readDish_113 : decode cX2_readDish 113 = .ok (.aload_n 1, 1) := by decide +kernel
theorem dX2_readDish_114 : decode cX2_readDish 114 = .ok (.iload 7, 2) := by decide +kernel
theorem dX2_readDish_116 : decode cX2_readDish 116 = .ok (.iconst 3, 1) := by decide +kernel
theorem dX2_readDish_117 : decode cX2_readDish 117 = .ok (.iload 5, 2) := by decide +kernel
theorem dX2_readDish_119 : decode cX2_readDish 119 = .ok (.invokevirtual 75, 3) := by decide +kernel
theorem dX2_readDish_122 : decode cX2_readDish 122 = .ok (.aload_n 1, 1) := by decide +kernel
theorem dX2_readDish_123 : decode cX2_readDish 123 = .ok (.iload 7, 2) := by decide +kernel
theorem dX2_readDish_125 : decode cX2_readDish 125 = .ok (.iconst 4, 1) := by decide +kernel
theorem dX2_readDish_126 : decode cX2_readDish 126 = .ok (.iload 6, 2) := by decide +kernel
theorem dX2_readDish_128 : decode cX2_readDish 128 = .ok (.invokevirtual 75, 3) := by decide +kernel
theorem dX2_readDish_131 : decode cX2_readDish 131 = .ok (.aload_n 1, 1) := by decide +kernel
theorem dX2_readDish_132 : decode cX2_readDish 132 = .ok (.iload 7, 2) := by decide +kernel
theorem dX2_readDish_134 : decode cX2_readDish 134 = .ok (.iconst 5, 1) := by decide +kernel
theorem dX2_readDish_135 : decode cX2_readDish 135 = .ok (.aload_n 0, 1) := by decide +kernel
theorem dX2_readDish_136 : decode cX2_readDish 136 = .ok (.ldc 79, 2) := by decide +kernel
theorem dX2_readDish_138 : decode cX2_readDish 138 = .ok (.invokevirtual 66, 3) := by decide +kernel
theorem dX2_readDish_141 : decode cX2_readDish 141 = .ok (.ifCond .eq 7, 3) := by decide +kernel
theorem dX2_readDish_144 : decode cX2_readDish 144 = .ok (.iconst 1, 1) := by decide +kernel
theorem dX2_readDish_145 : decode cX2_readDish 145 = .ok (.goto 4, 3) := by decide +kernel
theorem dX2_readDish_148 : decode cX2_readDish 148 = .ok (.iconst 0, 1) := by decide +kernel
theorem dX2_readDish_149 : decode cX2_readDish 149 = .ok (.invokevirtual 75, 3) := by decide +kernel
theorem dX2_readDish_152 : decode cX2_readDish 152 = .ok (.iconst 1, 1) := by decide +kernel
theorem dX2_readDish_153 : decode cX2_readDish 153 = .ok (.ireturn, 1) := by decide +kernel
theorem dX2_readGuest_0 : decode cX2_readGuest 0 = .ok (.aload_n 1, 1) := by decide +kernel
theorem dX2_readGuest_1 : decode cX2_readGuest 1 = .ok (.getfield 81, 3) := by decide +kernel
theorem dX2_readGuest_4 : decode cX2_readGuest 4 = .ok (.bipush 6, 2) := by decide +kernel
theorem dX2_readGuest_6 : decode cX2_readGuest 6 = .ok (.if_icmp .lt 5, 3) := by decide +kernel
theorem dX2_readGuest_9 : decode cX2_readGuest 9 = .ok (.iconst 0, 1) := by decide +kernel
theorem dX2_readGuest_10 : decode cX2_readGuest 10 = .ok (.ireturn, 1) := by decide +kernel
theorem dX2_readGuest_11 : decode cX2_readGuest 11 = .ok (.aload_n 0, 1) := by decide +kernel
theorem dX2_readGuest_12 : decode cX2_readGuest 12 = .ok (.invokevirtual 20, 3) := by decide +kernel
theorem dX2_readGuest_15 : decode cX2_readGuest 15 = .ok (.aload_n 0, 1) := by decide +kernel
theorem dX2_readGuest_16 : decode cX2_readGuest 16 = .ok (.bipush 99, 2) := by decide +kernel
theorem dX2_readGuest_18 : decode cX2_readGuest 18 = .ok (.invokevirtual 60, 3) := by decide +kernel
theorem dX2_readGuest_21 : decode cX2_readGuest 21 = .ok (.istore_n 2, 1) := by decide +kernel
theorem dX2_readGuest_22 : decode cX2_readGuest 22 = .ok (.iload_n 2, 1) := by decide +kernel
theorem dX2_readGuest_23 : decode cX2_readGuest 23 = .ok (.ifCond .ge 5, 3) := by decide +kernel
theorem dX2_readGuest_26 : decode cX2_readGuest 26 = .ok (.iconst 0, 1) := by decide +kernel
theorem dX2_readGuest_27 : decode cX2_readGuest 27 = .ok (.ireturn, 1) := by decide +kernel
theorem dX2_readGuest_28 : decode cX2_readGuest 28 = .ok (.aload_n 0, 1) := by decide +kernel
theorem dX2_readGuest_29 : decode cX2_readGuest 29 = .ok (.ldc 84, 2) := by decide +kernel
theorem dX2_readGuest_31 : decode cX2_readGuest 31 = .ok (.invokevirtual 66, 3) := by decide +kernel
theorem dX2_readGuest_34 : decode cX2_readGuest 34 = .ok (.ifCond .eq 12, 3) := by decide +kernel
theorem dX2_readGuest_37 : decode cX2_readGuest 37 = .ok (.aload_n 0, 1) := by decide +kernel
theorem dX2_readGuest_38 : decode cX2_readGuest 38 = .ok (.bipush 11, 2) := by decide +kernel
theorem dX2_readGuest_40 : decode cX2_readGuest 40 = .ok (.invokevirtual 60, 3) := by decide +kernel
theorem dX2_readGuest_43 : decode cX2_readGuest 43 = .ok (.goto 4, 3) := by decide +kernel
theorem dX2_readGuest_46 : decode cX2_readGuest 46 = .ok (.iconst 0, 1) := by decide +kernel
theorem dX2_readGuest_47 : decode cX2_readGuest 47 = .ok (.istore_n 3, 1) := by decide +kernel
theorem dX2_readGuest_48 : decode cX2_readGuest 48 = .ok (.iload_n 3, 1) := by decide +kernel
theorem dX2_readGuest_49 : decode cX2_readGuest 49 = .ok (.ifCond .ge 5, 3) := by decide +kernel
theorem dX2_readGuest_52 : decode cX2_readGuest 52 = .ok (.iconst 0, 1) := by decide +kernel
theorem dX2_readGuest_53 : decode cX2_readGuest 53 = .ok (.ireturn, 1) := by decide +kernel
theorem dX2_readGuest_54 : decode cX2_readGuest 54 = .ok (.aload_n 1, 1) := by decide +kernel
theorem dX2_readGuest_55 : decode cX2_readGuest 55 = .ok (.iload_n 2, 1) := by decide +kernel
theorem dX2_readGuest_56 : decode cX2_readGuest 56 = .ok (.invokevirtual 86, 3) := by decide +kernel
theorem dX2_readGuest_59 : decode cX2_readGuest 59 = .ok (.istore 4, 2) := by decide +kernel
theorem dX2_readGuest_61 : decode cX2_readGuest 61 = .ok (.aload_n 1, 1) := by decide +kernel
theorem dX2_readGuest_62 : decode cX2_readGuest 62 = .ok (.iload 4, 2) := by decide +kernel
theorem dX2_readGuest_64 : decode cX2_readGuest 64 = .ok (.iconst 1, 1) := by decide +kernel
theorem dX2_readGuest_65 : decode cX2_readGuest 65 = .ok (.iload_n 3, 1) := by decide +kernel
theorem dX2_readGuest_66 : decode cX2_readGuest 66 = .ok (.invokevirtual 89, 3) := by decide +kernel
theorem dX2_readGuest_69 : decode cX2_readGuest 69 = .ok (.iconst 1, 1) := by decide +kernel
theorem dX2_readGuest_70 : decode cX2_readGuest 70 = .ok (.ireturn, 1) := by decide +kernel
theorem dX2_readMeal_0 : decode cX2_readMeal 0 = .ok (.aload_n 0, 1) := by decide +kernel
theorem dX2_readMeal_1 : decode cX2_readMeal 1 = .ok (.invokevirtual 20, 3) := by decide +kernel
theorem dX2_readMeal_4 : decode cX2_readMeal 4 = .ok (.aload_n 0, 1) := by decide +kernel
theorem dX2_readMeal_5 : decode cX2_readMeal 5 = .ok (.iconst 5, 1) := by decide +kernel
theorem dX2_readMeal_6 : decode cX2_readMeal 6 = .ok (.invokevirtual 60, 3) := by decide +kernel
theorem dX2_readMeal_9 : decode cX2_readMeal 9 = .ok (.istore_n 2, 1) := by decide +kernel
theorem dX2_readMeal_10 : decode cX2_readMeal 10 = .ok (.iload_n 2, 1) := by decide +kernel
theorem dX2_readMeal_11 : decode cX2_readMeal 11 = .ok (.ifCond .ge 7, 3) := by decide +kernel
theorem dX2_readMeal_14 : decode cX2_readMeal 14 = .ok (.iconst (-1), 1) := by decide +kernel
theorem dX2_readMeal_15 : decode cX2_readMeal 15 = .ok (.goto 8, 3) := by decide +kernel
theorem dX2_readMeal_18 : decode cX2_readMeal 18 = .ok (.aload_n 0, 1) := by decide +kernel
theorem dX2_readMeal_19 : decode cX2_readMeal 19 = .ok (.iconst 5, 1) := by decide +kernel
theorem dX2_readMeal_20 : decode cX2_readMeal 20 = .ok (.invokevirtual 60, 3) := by decide +kernel
theorem dX2_readMeal_23 : decode cX2_readMeal 23 = .ok (.istore_n 3, 1) := by decide +kernel
theorem dX2_readMeal_24 : decode cX2_readMeal 24 = .ok (.iload_n 3, 1) := by decide +kernel
theorem dX2_readMeal_25 : decode cX2_readMeal 25 = .ok (.ifCond .ge 7, 3) := by decide +kernel
theorem dX2_readMeal_28 : decode cX2_readMeal 28 = .ok (.iconst (-1), 1) := by decide +kernel
theorem dX2_readMeal_29 : decode cX2_readMeal 29 = .ok (.goto 9, 3) := by decide +kernel
theorem dX2_readMeal_32 : decode cX2_readMeal 32 = .ok (.aload_n 0, 1) := by decide +kernel
theorem dX2_readMeal_33 : decode cX2_readMeal 33 = .ok (.bipush 7, 2) := by decide +kernel
theorem dX2_readMeal_35 : decode cX2_readMeal 35 = .ok (.invokevirtual 60, 3) := by decide +kernel
theorem dX2_readMeal_38 : decode cX2_readMeal 38 = .ok (.istore 4, 2) := by decide +kernel
theorem dX2_readMeal_40 : decode cX2_readMeal 40 = .ok (.iload 4, 2) := by decide +kernel
theorem dX2_readMeal_42 : decode cX2_readMeal 42 = .ok (.ifCond .ge 5, 3) := by decide +kernel
theorem dX2_readMeal_45 : decode cX2_readMeal 45 = .ok (.iconst 0, 1) := by decide +kernel
theorem dX2_readMeal_46 : decode cX2_readMeal 46 = .ok (.ireturn, 1) := by decide +kernel
theorem dX2_readMeal_47 : decode cX2_readMeal 47 = .ok (.aload_n 1, 1) := by decide +kernel
theorem dX2_readMeal_48 : decode cX2_readMeal 48 = .ok (.iload_n 2, 1) := by decide +kernel
theorem dX2_readMeal_49 : decode cX2_readMeal 49 = .ok (.iload_n 3, 1) := by decide +kernel
theorem dX2_readMeal_50 : decode cX2_readMeal 50 = .ok (.iload 4, 2) := by decide +kernel
theorem dX2_readMeal_52 : decode cX2_readMeal 52 = .ok (.invokevirtual 92, 3) := by decide +kernel
theorem dX2_readMeal_55 : decode cX2_readMeal 55 = .ok (.iconst 1, 1) := by decide +kernel
theorem dX2_readMeal_56 : decode cX2_readMeal 56 = .ok (.ireturn, 1) := by decide +kernel
theorem dX2_takeWord_0 : decode cX2_takeWord 0 = .ok (.aload_n 0, 1) := by decide +kernel
theorem dX2_takeWord_1 : decode cX2_takeWord 1 = .ok (.aload_n 1, 1) := by decide +kernel
theorem dX2_takeWord_2 : decode cX2_takeWord 2 = .ok (.invokevirtual 35, 3) := by decide +kernel
theorem dX2_takeWord_5 : decode cX2_takeWord 5 = .ok (.ifCond .ne 5, 3) := by decide +kernel
theorem dX2_takeWord_8 : decode cX2_takeWord 8 = .ok (.iconst 0, 1) := by decide +kernel
theorem dX2_takeWord_9 : decode cX2_takeWord 9 = .ok (.ireturn, 1) := by decide +kernel
theorem dX2_takeWord_10 : decode cX2_takeWord 10 = .ok (.aload_n 0, 1) := by decide +kernel
theorem dX2_takeWord_11 : decode cX2_takeWord 11 = .ok (.invokevirtual 20, 3) := by decide +kernel
theorem dX2_takeWord_14 : decode cX2_takeWord 14 = .ok (.iconst 1, 1) := by decide +kernel
theorem dX2_takeWord_15 : decode cX2_takeWord 15 = .ok (.ireturn, 1) := by decide +kernel
theorem dX2_takeNumber_0 : decode cX2_takeNumber 0 = .ok (.aload_n 0, 1) := by decide +kernel
theorem dX2_takeNumber_1 : decode cX2_takeNumber 1 = .ok (.getfield 27, 3) := by decide +kernel
theorem dX2_takeNumber_4 : decode cX2_takeNumber 4 = .ok (.iconst 2, 1) := by decide +kernel
theorem dX2_takeNumber_5 : decode cX2_takeNumber 5 = .ok (.if_icmp .ne 11, 3) := by decide +kernel
theorem dX2_takeNumber_8 : decode cX2_takeNumber 8 = .ok (.aload_n 0, 1) := by decide +kernel
theorem dX2_takeNumber_9 : decode cX2_takeNumber 9 = .ok (.getfield 95, 3) := by decide +kernel
theorem dX2_takeNumber_12 : decode cX2_takeNumber 12 = .ok (.iload_n 1, 1) := by decide +kernel
theorem dX2_takeNumber_13 : decode cX2_takeNumber 13 = .ok (.if_icmp .le 5, 3) := by decide +kernel
theorem dX2_takeNumber_16 : decode cX2_takeNumber 16 = .ok (.iconst (-1), 1) := by decide +kernel
theorem dX2_takeNumber_17 : decode cX2_takeNumber 17 = .ok (.ireturn, 1) := by decide +kernel
theorem dX2_takeNumber_18 : decode cX2_takeNumber 18 = .ok (.aload_n 0, 1) := by decide +kernel
theorem dX2_takeNumber_19 : decode cX2_takeNumber 19 = .ok (.getfield 95, 3) := by decide +kernel
theorem dX2_takeNumber_22 : decode cX2_takeNumber 22 = .ok (.istore_n 2, 1) := by decide +kernel
theorem dX2_takeNumber_23 : decode cX2_takeNumber 23 = .ok (.aload_n 0, 1) := by decide +kernel
theorem dX2_takeNumber_24 : decode cX2_takeNumber 24 = .ok (.invokevirtual 20, 3) := by decide +kernel
theorem dX2_takeNumber_27 : decode cX2_takeNumber 27 = .ok (.iload_n 2, 1) := by decide +kernel
theorem dX2_takeNumber_28 : decode cX2_takeNumber 28 = .ok (.ireturn, 1) := by decide +kernel
theorem dX2_isWord_0 : decode cX2_isWord 0 = .ok (.aload_n 0, 1) := by decide +kernel
theorem dX2_isWord_1 : decode cX2_isWord 1 = .ok (.getfield 27, 3) := by decide +kernel
theorem dX2_isWord_4 : decode cX2_isWord 4 = .ok (.iconst 1, 1) := by decide +kernel
theorem dX2_isWord_5 : decode cX2_isWord 5 = .ok (.if_icmp .ne 19, 3) := by decide +kernel
theorem dX2_isWord_8 : decode cX2_isWord 8 = .ok (.aload_n 0, 1) := by decide +kernel
theorem dX2_isWord_9 : decode cX2_isWord 9 = .ok (.getfield 17, 3) := by decide +kernel
theorem dX2_isWord_12 : decode cX2_isWord 12 = .ok (.aload_n 0, 1) := by decide +kernel
theorem dX2_isWord_13 : decode cX2_isWord 13 = .ok (.getfield 30, 3) := by decide +kernel
theorem dX2_isWord_16 : decode cX2_isWord 16 = .ok (.isub, 1) := by decide +kernel
theorem dX2_isWord_17 : decode cX2_isWord 17 = .ok (.aload_n 1, 1) := by decide +kernel
theorem dX2_isWord_18 : decode cX2_isWord 18 = .ok (.invokevirtual 98, 3) := by decide +kernel
theorem dX2_isWord_21 : decode cX2_isWord 21 = .ok (.if_icmp .eq 5, 3) := by decide +kernel
theorem dX2_isWord_24 : decode cX2_isWord 24 = .ok (.iconst 0, 1) := by decide +kernel
theorem dX2_isWord_25 : decode cX2_isWord 25 = .ok (.ireturn, 1) := by decide +kernel
theorem dX2_isWord_26 : decode cX2_isWord 26 = .ok (.iconst 0, 1) := by decide +kernel
theorem dX2_isWord_27 : decode cX2_isWord 27 = .ok (.istore_n 2, 1) := by decide +kernel
theorem dX2_isWord_28 : decode cX2_isWord 28 = .ok (.iload_n 2, 1) := by decide +kernel
theorem dX2_isWord_29 : decode cX2_isWord 29 = .ok (.aload_n 1, 1) := by decide +kernel
theorem dX2_isWord_30 : decode cX2_isWord 30 = .ok (.invokevirtual 98, 3) := by decide +kernel
theorem dX2_isWord_33 : decode cX2_isWord 33 = .ok (.if_icmp .ge 30, 3) := by decide +kernel
theorem dX2_isWord_36 : decode cX2_isWord 36 = .ok (.aload_n 0, 1) := by decide +kernel
theorem dX2_isWord_37 : decode cX2_isWord 37 = .ok (.getfield 9, 3) := by decide +kernel
theorem dX2_isWord_40 : decode cX2_isWord 40 = .ok (.aload_n 0, 1) := by decide +kernel
theorem dX2_isWord_41 : decode cX2_isWord 41 = .ok (.getfield 30, 3) := by decide +kernel
theorem dX2_isWord_44 : decode cX2_isWord 44 = .ok (.iload_n 2, 1) := by decide +kernel
theorem dX2_isWord_45 : decode cX2_isWord 45 = .ok (.iadd, 1) := by decide +kernel
theorem dX2_isWord_46 : decode cX2_isWord 46 = .ok (.baload, 1) := by decide +kernel
theorem dX2_isWord_47 : decode cX2_isWord 47 = .ok (.aload_n 1, 1) := by decide +kernel
theorem dX2_isWord_48 : decode cX2_isWord 48 = .ok (.iload_n 2, 1) := by decide +kernel
theorem dX2_isWord_49 : decode cX2_isWord 49 = .ok (.invokevirtual 103, 3) := by decide +kernel
theorem dX2_isWord_52 : decode cX2_isWord 52 = .ok (.if_icmp .eq 5, 3) := by decide +kernel
theorem dX2_isWord_55 : decode cX2_isWord 55 = .ok (.iconst 0, 1) := by decide +kernel
theorem dX2_isWord_56 : decode cX2_isWord 56 = .ok (.ireturn, 1) := by decide +kernel
theorem dX2_isWord_57 : decode cX2_isWord 57 = .ok (.iinc 2 1, 3) := by decide +kernel
theorem dX2_isWord_60 : decode cX2_isWord 60 = .ok (.goto (-32), 3) := by decide +kernel
theorem dX2_isWord_63 : decode cX2_isWord 63 = .ok (.iconst 1, 1) := by decide +kernel
theorem dX2_isWord_64 : decode cX2_isWord 64 = .ok (.ireturn, 1) := by decide +kernel
theorem dX2_wordOf_0 : decode cX2_wordOf 0 = .ok (.iload_n 0, 1) := by decide +kernel
theorem dX2_wordOf_1 : decode cX2_wordOf 1 = .ok (.tableswitch 57 1 6 #[39, 42, 45, 48, 51, 54], 39) := by decide +kernel
theorem dX2_wordOf_40 : decode cX2_wordOf 40 = .ok (.ldc 107, 2) := by decide +kernel
theorem dX2_wordOf_42 : decode cX2_wordOf 42 = .ok (.areturn, 1) := by decide +kernel
theorem dX2_wordOf_43 : decode cX2_wordOf 43 = .ok (.ldc 109, 2) := by decide +kernel
theorem dX2_wordOf_45 : decode cX2_wordOf 45 = .ok (.areturn, 1) := by decide +kernel
theorem dX2_wordOf_46 : decode cX2_wordOf 46 = .ok (.ldc 111, 2) := by decide +kernel
theorem dX2_wordOf_48 : decode cX2_wordOf 48 = .ok (.areturn, 1) := by decide +kernel
theorem dX2_wordOf_49 : decode cX2_wordOf 49 = .ok (.ldc 113, 2) := by decide +kernel
theorem dX2_wordOf_51 : decode cX2_wordOf 51 = .ok (.areturn, 1) := by decide +kernel
theorem dX2_wordOf_52 : decode cX2_wordOf 52 = .ok (.ldc 115, 2) := by decide +kernel
theorem dX2_wordOf_54 : decode cX2_wordOf 54 = .ok (.areturn, 1) := by decide +kernel
theorem dX2_wordOf_55 : decode cX2_wordOf 55 = .ok (.ldc 117, 2) := by decide +kernel
theorem dX2_wordOf_57 : decode cX2_wordOf 57 = .ok (.areturn, 1) := by decide +kernel
theorem dX2_wordOf_58 : decode cX2_wordOf 58 = .ok (.ldc 119, 2) := by decide +kernel
theorem dX2_wordOf_60 : decode cX2_wordOf 60 = .ok (.areturn, 1) := by decide +kernel
theorem dX2_nextToken_0 : decode cX2_nextToken 0 = .ok (.aload_n 0, 1) := by decide +kernel
theorem dX2_nextToken_1 : decode cX2_nextToken 1 = .ok (.aload_n 0, 1) := by decide +kernel
theorem dX2_nextToken_2 : decode cX2_nextToken 2 = .ok (.getfield 17, 3) := by decide +kernel
theorem dX2_nextToken_5 : decode cX2_nextToken 5 = .ok (.putfield 30, 3) := by decide +kernel
theorem dX2_nextToken_8 : decode cX2_nextToken 8 = .ok (.aload_n 0, 1) := by decide +kernel
theorem dX2_nextToken_9 : decode cX2_nextToken 9 = .ok (.getfield 30, 3) := by decide +kernel
theorem dX2_nextToken_12 : decode cX2_nextToken 12 = .ok (.aload_n 0, 1) := by decide +kernel
theorem dX2_nextToken_13 : decode cX2_nextToken 13 = .ok (.getfield 13, 3) := by decide +kernel
theorem dX2_nextToken_16 : decode cX2_nextToken 16 = .ok (.if_icmp .ge 30, 3) := by decide +kernel
theorem dX2_nextToken_19 : decode cX2_nextToken 19 = .ok (.aload_n 0, 1) := by decide +kernel
theorem dX2_nextToken_20 : decode cX2_nextToken 20 = .ok (.getfield 9, 3) := by decide +kernel
theorem dX2_nextToken_23 : decode cX2_nextToken 23 = .ok (.aload_n 0, 1) := by decide +kernel
theorem dX2_nextToken_24 : decode cX2_nextToken 24 = .ok (.getfield 30, 3) := by decide +kernel
theorem dX2_nextToken_27 : decode cX2_nextToken 27 = .ok (.baload, 1) := by decide +kernel
theorem dX2_nextToken_28 : decode cX2_nextToken 28 = .ok (.bipush 32, 2) := by decide +kernel
theorem dX2_nextToken_30 : decode cX2_nextToken 30 = .ok (.if_icmp .ne 16, 3) := by decide +kernel
theorem dX2_nextToken_33 : decode cX2_nextToken 33 = .ok (.aload_n 0, 1) := by decide +kernel
theorem dX2_nextToken_34 : decode cX2_nextToken 34 = .ok (.dup, 1) := by decide +kernel
theorem dX2_nextToken_35 : decode cX2_nextToken 35 = .ok (.getfield 30, 3) := by decide +kernel
theorem dX2_nextToken_38 : decode cX2_nextToken 38 = .ok (.iconst 1, 1) := by decide +kernel
theorem dX2_nextToken_39 : decode cX2_nextToken 39 = .ok (.iadd, 1) := by decide +kernel
theorem dX2_nextToken_40 : decode cX2_nextToken 40 = .ok (.putfield 30, 3) := by decide +kernel
theorem dX2_nextToken_43 : decode cX2_nextToken 43 = .ok (.goto (-35), 3) := by decide +kernel
theorem dX2_nextToken_46 : decode cX2_nextToken 46 = .ok (.aload_n 0, 1) := by decide +kernel
theorem dX2_nextToken_47 : decode cX2_nextToken 47 = .ok (.aload_n 0, 1) := by decide +kernel
theorem dX2_nextToken_48 : decode cX2_nextToken 48 = .ok (.getfield 30, 3) := by decide +kernel
theorem dX2_nextToken_51 : decode cX2_nextToken 51 = .ok (.putfield 17, 3) := by decide +kernel
theorem dX2_nextToken_54 : decode cX2_nextToken 54 = .ok (.aload_n 0, 1) := by decide +kernel
theorem dX2_nextToken_55 : decode cX2_nextToken 55 = .ok (.iconst 0, 1) := by decide +kernel
theorem dX2_nextToken_56 : decode cX2_nextToken 56 = .ok (.putfield 95, 3) := by decide +kernel
theorem dX2_nextToken_59 : decode cX2_nextToken 59 = .ok (.aload_n 0, 1) := by decide +kernel
theorem dX2_nextToken_60 : decode cX2_nextToken 60 = .ok (.getfield 30, 3) := by decide +kernel
theorem dX2_nextToken_63 : decode cX2_nextToken 63 = .ok (.aload_n 0, 1) := by decide +kernel
theorem dX2_nextToken_64 : decode cX2_nextToken 64 = .ok (.getfield 13, 3) := by decide +kernel
theorem dX2_nextToken_67 : decode cX2_nextToken 67 = .ok (.if_icmp .lt 9, 3) := by decide +kernel
theorem dX2_nextToken_70 : decode cX2_nextToken 70 = .ok (.aload_n 0, 1) := by decide +kernel
theorem dX2_nextToken_71 : decode cX2_nextToken 71 = .ok (.iconst 0, 1) := by decide +kernel
theorem dX2_nextToken_72 : decode cX2_nextToken 72 = .ok (.putfield 27, 3) := by decide +kernel
theorem dX2_nextToken_75 : decode cX2_nextToken 75 = .ok (.return_, 1) := by decide +kernel
theorem dX2_nextToken_76 : decode cX2_nextToken 76 = .ok (.aload_n 0, 1) := by decide +kernel
theorem dX2_nextToken_77 : decode cX2_nextToken 77 = .ok (.aload_n 0, 1) := by decide +kernel
theorem dX2_nextToken_78 : decode cX2_nextToken 78 = .ok (.getfield 9, 3) := by decide +kernel
theorem dX2_nextToken_81 : decode cX2_nextToken 81 = .ok (.aload_n 0, 1) := by decide +kernel
theorem dX2_nextToken_82 : decode cX2_nextToken 82 = .ok (.getfield 30, 3) := by decide +kernel
theorem dX2_nextToken_85 : decode cX2_nextToken 85 = .ok (.baload, 1) := by decide +kernel
theorem dX2_nextToken_86 : decode cX2_nextToken 86 = .ok (.invokestatic 121, 3) := by decide +kernel
theorem dX2_nextToken_89 : decode cX2_nextToken 89 = .ok (.putfield 27, 3) := by decide +kernel
theorem dX2_nextToken_92 : decode cX2_nextToken 92 = .ok (.aload_n 0, 1) := by decide +kernel
theorem dX2_nextToken_93 : decode cX2_nextToken 93 = .ok (.getfield 27, 3) := by decide +kernel
theorem dX2_nextToken_96 : decode cX2_nextToken 96 = .ok (.iconst 2, 1) := by decide +kernel
theorem dX2_nextToken_97 : decode cX2_nextToken 97 = .ok (.if_icmp .ne 37, 3) := by decide +kernel
theorem dX2_nextToken_100 : decode cX2_nextToken 100 = .ok (.aload_n 0, 1) := by decide +kernel
theorem dX2_nextToken_101 : decode cX2_nextToken 101 = .ok (.getfield 95, 3) := by decide +kernel
theorem dX2_nextToken_104 : decode cX2_nextToken 104 = .ok (.sipush 9999, 3) := by decide +kernel
theorem dX2_nextToken_107 : decode cX2_nextToken 107 = .ok (.if_icmp .gt 27, 3) := by decide +kernel
theorem dX2_nextToken_110 : decode cX2_nextToken 110 = .ok (.aload_n 0, 1) := by decide +kernel
theorem dX2_nextToken_111 : decode cX2_nextToken 111 = .ok (.bipush 10, 2) := by decide +kernel
theorem dX2_nextToken_113 : decode cX2_nextToken 113 = .ok (.aload_n 0, 1) := by decide +kernel
theorem dX2_nextToken_114 : decode cX2_nextToken 114 = .ok (.getfield 95, 3) := by decide +kernel
theorem dX2_nextToken_117 : decode cX2_nextToken 117 = .ok (.imul, 1) := by decide +kernel
theorem dX2_nextToken_118 : decode cX2_nextToken 118 = .ok (.aload_n 0, 1) := by decide +kernel
theorem dX2_nextToken_119 : decode cX2_nextToken 119 = .ok (.getfield 9, 3) := by decide +kernel
theorem dX2_nextToken_122 : decode cX2_nextToken 122 = .ok (.aload_n 0, 1) := by decide +kernel
theorem dX2_nextToken_123 : decode cX2_nextToken 123 = .ok (.getfield 17, 3) := by decide +kernel
theorem dX2_nextToken_126 : decode cX2_nextToken 126 = .ok (.baload, 1) := by decide +kernel
theorem dX2_nextToken_127 : decode cX2_nextToken 127 = .ok (.bipush 48, 2) := by decide +kernel
theorem dX2_nextToken_129 : decode cX2_nextToken 129 = .ok (.isub, 1) := by decide +kernel
theorem dX2_nextToken_130 : decode cX2_nextToken 130 = .ok (.iadd, 1) := by decide +kernel
theorem dX2_nextToken_131 : decode cX2_nextToken 131 = .ok (.putfield 95, 3) := by decide +kernel
theorem dX2_nextToken_134 : decode cX2_nextToken 134 = .ok (.aload_n 0, 1) := by decide +kernel
theorem dX2_nextToken_135 : decode cX2_nextToken 135 = .ok (.dup, 1) := by decide +kernel
theorem dX2_nextToken_136 : decode cX2_nextToken 136 = .ok (.getfield 17, 3) := by decide +kernel
theorem dX2_nextToken_139 : decode cX2_nextToken 139 = .ok (.iconst 1, 1) := by decide +kernel
theorem dX2_nextToken_140 : decode cX2_nextToken 140 = .ok (.iadd, 1) := by decide +kernel
theorem dX2_nextToken_141 : decode cX2_nextToken 141 = .ok (.putfield 17, 3) := by decide +kernel
theorem dX2_nextToken_144 : decode cX2_nextToken 144 = .ok (.aload_n 0, 1) := by decide +kernel
theorem dX2_nextToken_145 : decode cX2_nextToken 145 = .ok (.getfield 27, 3) := by decide +kernel
theorem dX2_nextToken_148 : decode cX2_nextToken 148 = .ok (.iconst 3, 1) := by decide +kernel
theorem dX2_nextToken_149 : decode cX2_nextToken 149 = .ok (.if_icmp .eq 33, 3) := by decide +kernel
theorem dX2_nextToken_152 : decode cX2_nextToken 152 = .ok (.aload_n 0, 1) := by decide +kernel
theorem dX2_nextToken_153 : decode cX2_nextToken 153 = .ok (.getfield 17, 3) := by decide +kernel
theorem dX2_nextToken_156 : decode cX2_nextToken 156 = .ok (.aload_n 0, 1) := by decide +kernel
theorem dX2_nextToken_157 : decode cX2_nextToken 157 = .ok (.getfield 13, 3) := by decide +kernel
theorem dX2_nextToken_160 : decode cX2_nextToken 160 = .ok (.if_icmp .ge 22, 3) := by decide +kernel
theorem dX2_nextToken_163 : decode cX2_nextToken 163 = .ok (.aload_n 0, 1) := by decide +kernel
theorem dX2_nextToken_164 : decode cX2_nextToken 164 = .ok (.getfield 9, 3) := by decide +kernel
theorem dX2_nextToken_167 : decode cX2_nextToken 167 = .ok (.aload_n 0, 1) := by decide +kernel
theorem dX2_nextToken_168 : decode cX2_nextToken 168 = .ok (.getfield 17, 3) := by decide +kernel
theorem dX2_nextToken_171 : decode cX2_nextToken 171 = .ok (.baload, 1) := by decide +kernel
theorem dX2_nextToken_172 : decode cX2_nextToken 172 = .ok (.invokestatic 121, 3) := by decide +kernel
theorem dX2_nextToken_175 : decode cX2_nextToken 175 = .ok (.aload_n 0, 1) := by decide +kernel
theorem dX2_nextToken_176 : decode cX2_nextToken 176 = .ok (.getfield 27, 3) := by decide +kernel
theorem dX2_nextToken_179 : decode cX2_nextToken 179 = .ok (.if_icmp .eq (-87), 3) := by decide +kernel
theorem dX2_nextToken_182 : decode cX2_nextToken 182 = .ok (.return_, 1) := by decide +kernel
theorem dX2_tokenBegunBy_0 : decode cX2_tokenBegunBy 0 = .ok (.iload_n 0, 1) := by decide +kernel
theorem dX2_tokenBegunBy_1 : decode cX2_tokenBegunBy 1 = .ok (.bipush 97, 2) := by decide +kernel
theorem dX2_tokenBegunBy_3 : decode cX2_tokenBegunBy 3 = .ok (.if_icmp .lt 11, 3) := by decide +kernel
theorem dX2_tokenBegunBy_6 : decode cX2_tokenBegunBy 6 = .ok (.iload_n 0, 1) := by decide +kernel
theorem dX2_tokenBegunBy_7 : decode cX2_tokenBegunBy 7 = .ok (.bipush 122, 2) := by decide +kernel
theorem dX2_tokenBegunBy_9 : decode cX2_tokenBegunBy 9 = .ok (.if_icmp .gt 5, 3) := by decide +kernel
theorem dX2_tokenBegunBy_12 : decode cX2_tokenBegunBy 12 = .ok (.iconst 1, 1) := by decide +kernel
theorem dX2_tokenBegunBy_13 : decode cX2_tokenBegunBy 13 = .ok (.ireturn, 1) := by decide +kernel
theorem dX2_tokenBegunBy_14 : decode cX2_tokenBegunBy 14 = .ok (.iload_n 0, 1) := by decide +kernel
theorem dX2_tokenBegunBy_15 : decode cX2_tokenBegunBy 15 = .ok (.bipush 48, 2) := by decide +kernel
theorem dX2_tokenBegunBy_17 : decode cX2_tokenBegunBy 17 = .ok (.if_icmp .lt 11, 3) := by decide +kernel
theorem dX2_tokenBegunBy_20 : decode cX2_tokenBegunBy 20 = .ok (.iload_n 0, 1) := by decide +kernel
theorem dX2_tokenBegunBy_21 : decode cX2_tokenBegunBy 21 = .ok (.bipush 57, 2) := by decide +kernel
theorem dX2_tokenBegunBy_23 : decode cX2_tokenBegunBy 23 = .ok (.if_icmp .gt 5, 3) := by decide +kernel
theorem dX2_tokenBegunBy_26 : decode cX2_tokenBegunBy 26 = .ok (.iconst 2, 1) := by decide +kernel
theorem dX2_tokenBegunBy_27 : decode cX2_tokenBegunBy 27 = .ok (.ireturn, 1) := by decide +kernel
theorem dX2_tokenBegunBy_28 : decode cX2_tokenBegunBy 28 = .ok (.iload_n 0, 1) := by decide +kernel
theorem dX2_tokenBegunBy_29 : decode cX2_tokenBegunBy 29 = .ok (.bipush 59, 2) := by decide +kernel
theorem dX2_tokenBegunBy_31 : decode cX2_tokenBegunBy 31 = .ok (.if_icmp .ne 7, 3) := by decide +kernel
theorem dX2_tokenBegunBy_34 : decode cX2_tokenBegunBy 34 = .ok (.iconst 3, 1) := by decide +kernel
theorem dX2_tokenBegunBy_35 : decode cX2_tokenBegunBy 35 = .ok (.goto 4, 3) := by decide +kernel
theorem dX2_tokenBegunBy_38 : decode cX2_tokenBegunBy 38 = .ok (.iconst 4, 1) := by decide +kernel
theorem dX2_tokenBegunBy_39 : decode cX2_tokenBegunBy 39 = .ok (.ireturn, 1) := by decide +kernel
theorem dJ6_bitCount_0f7a4_0 : decode cJ6_bitCount_0f7a4 0 = .ok (.iload_n 0, 1) := by decide +kernel
theorem dJ6_bitCount_0f7a4_1 : decode cJ6_bitCount_0f7a4 1 = .ok (.iload_n 0, 1) := by decide +kernel
theorem dJ6_bitCount_0f7a4_2 : decode cJ6_bitCount_0f7a4 2 = .ok (.iconst 1, 1) := by decide +kernel
theorem dJ6_bitCount_0f7a4_3 : decode cJ6_bitCount_0f7a4 3 = .ok (.iushr, 1) := by decide +kernel
theorem dJ6_bitCount_0f7a4_4 : decode cJ6_bitCount_0f7a4 4 = .ok (.ldc_w 265, 3) := by decide +kernel
theorem dJ6_bitCount_0f7a4_7 : decode cJ6_bitCount_0f7a4 7 = .ok (.iand, 1) := by decide +kernel
theorem dJ6_bitCount_0f7a4_8 : decode cJ6_bitCount_0f7a4 8 = .ok (.isub, 1) := by decide +kernel
theorem dJ6_bitCount_0f7a4_9 : decode cJ6_bitCount_0f7a4 9 = .ok (.istore_n 0, 1) := by decide +kernel
theorem dJ6_bitCount_0f7a4_10 : decode cJ6_bitCount_0f7a4 10 = .ok (.iload_n 0, 1) := by decide +kernel
theorem dJ6_bitCount_0f7a4_11 : decode cJ6_bitCount_0f7a4 11 = .ok (.ldc_w 266, 3) := by decide +kernel
theorem dJ6_bitCount_0f7a4_14 : decode cJ6_bitCount_0f7a4 14 = .ok (.iand, 1) := by decide +kernel
theorem dJ6_bitCount_0f7a4_15 : decode cJ6_bitCount_0f7a4 15 = .ok (.iload_n 0, 1) := by decide +kernel
theorem dJ6_bitCount_0f7a4_16 : decode cJ6_bitCount_0f7a4 16 = .ok (.iconst 2, 1) := by decide +kernel
theorem dJ6_bitCount_0f7a4_17 : decode cJ6_bitCount_0f7a4 17 = .ok (.iushr, 1) := by decide +kernel
theorem dJ6_bitCount_0f7a4_18 : decode cJ6_bitCount_0f7a4 18 = .ok (.ldc_w 266, 3) := by decide +kernel
theorem dJ6_bitCount_0f7a4_21 : decode cJ6_bitCount_0f7a4 21 = .ok (.iand, 1) := by decide +kernel
theorem dJ6_bitCount_0f7a4_22 : decode cJ6_bitCount_0f7a4 22 = .ok (.iadd, 1) := by decide +kernel
theorem dJ6_bitCount_0f7a4_23 : decode cJ6_bitCount_0f7a4 23 = .ok (.istore_n 0, 1) := by decide +kernel
theorem dJ6_bitCount_0f7a4_24 : decode cJ6_bitCount_0f7a4 24 = .ok (.iload_n 0, 1) := by decide +kernel
theorem dJ6_bitCount_0f7a4_25 : decode cJ6_bitCount_0f7a4 25 = .ok (.iload_n 0, 1) := by decide +kernel
theorem dJ6_bitCount_0f7a4_26 : decode cJ6_bitCount_0f7a4 26 = .ok (.iconst 4, 1) := by decide +kernel
theorem dJ6_bitCount_0f7a4_27 : decode cJ6_bitCount_0f7a4 27 = .ok (.iushr, 1) := by decide +kernel
theorem dJ6_bitCount_0f7a4_28 : decode cJ6_bitCount_0f7a4 28 = .ok (.iadd, 1) := by decide +kernel
theorem dJ6_bitCount_0f7a4_29 : decode cJ6_bitCount_0f7a4 29 = .ok (.ldc_w 267, 3) := by decide +kernel
theorem dJ6_bitCount_0f7a4_32 : decode cJ6_bitCount_0f7a4 32 = .ok (.iand, 1) := by decide +kernel
theorem dJ6_bitCount_0f7a4_33 : decode cJ6_bitCount_0f7a4 33 = .ok (.istore_n 0, 1) := by decide +kernel
theorem dJ6_bitCount_0f7a4_34 : decode cJ6_bitCount_0f7a4 34 = .ok (.iload_n 0, 1) := by decide +kernel
theorem dJ6_bitCount_0f7a4_35 : decode cJ6_bitCount_0f7a4 35 = .ok (.iload_n 0, 1) := by decide +kernel
theorem dJ6_bitCount_0f7a4_36 : decode cJ6_bitCount_0f7a4 36 = .ok (.bipush 8, 2) := by decide +kernel
theorem dJ6_bitCount_0f7a4_38 : decode cJ6_bitCount_0f7a4 38 = .ok (.iushr, 1) := by decide +kernel
theorem dJ6_bitCount_0f7a4_39 : decode cJ6_bitCount_0f7a4 39 = .ok (.iadd, 1) := by decide +kernel
theorem dJ6_bitCount_0f7a4_40 : decode cJ6_bitCount_0f7a4 40 = .ok (.istore_n 0, 1) := by decide +kernel
theorem dJ6_bitCount_0f7a4_41 : decode cJ6_bitCount_0f7a4 41 = .ok (.iload_n 0, 1) := by decide +kernel
theorem dJ6_bitCount_0f7a4_42 : decode cJ6_bitCount_0f7a4 42 = .ok (.iload_n 0, 1) := by decide +kernel
theorem dJ6_bitCount_0f7a4_43 : decode cJ6_bitCount_0f7a4 43 = .ok (.bipush 16, 2) := by decide +kernel
theorem dJ6_bitCount_0f7a4_45 : decode cJ6_bitCount_0f7a4 45 = .ok (.iushr, 1) := by decide +kernel
theorem dJ6_bitCount_0f7a4_46 : decode cJ6_bitCount_0f7a4 46 = .ok (.iadd, 1) := by decide +kernel
theorem dJ6_bitCount_0f7a4_47 : decode cJ6_bitCount_0f7a4 47 = .ok (.istore_n 0, 1) := by decide +kernel
theorem dJ6_bitCount_0f7a4_48 : decode cJ6_bitCount_0f7a4 48 = .ok (.iload_n 0, 1) := by decide +kernel
theorem dJ6_bitCount_0f7a4_49 : decode cJ6_bitCount_0f7a4 49 = .ok (.bipush 63, 2) := by decide +kernel
theorem dJ6_bitCount_0f7a4_51 : decode cJ6_bitCount_0f7a4 51 = .ok (.iand, 1) := by decide +kernel
theorem dJ6_bitCount_0f7a4_52 : decode cJ6_bitCount_0f7a4 52 = .ok (.ireturn, 1) := by decide +kernel
theorem dJ9_max_7cf53_0 : decode cJ9_max_7cf53 0 = .ok (.iload_n 0, 1) := by decide +kernel
theorem dJ9_max_7cf53_1 : decode cJ9_max_7cf53 1 = .ok (.iload_n 1, 1) := by decide +kernel
theorem dJ9_max_7cf53_2 : decode cJ9_max_7cf53 2 = .ok (.if_icmp .lt 7, 3) := by decide +kernel
theorem dJ9_max_7cf53_5 : decode cJ9_max_7cf53 5 = .ok (.iload_n 0, 1) := by decide +kernel
theorem dJ9_max_7cf53_6 : decode cJ9_max_7cf53 6 = .ok (.goto 4, 3) := by decide +kernel
theorem dJ9_max_7cf53_9 : decode cJ9_max_7cf53 9 = .ok (.iload_n 1, 1) := by decide +kernel
theorem dJ9_max_7cf53_10 : decode cJ9_max_7cf53 10 = .ok (.ireturn, 1) := by decide +kernel
theorem dJ9_min_7cf53_0 : decode cJ9_min_7cf53 0 = .ok (.iload_n 0, 1) := by decide +kernel
theorem dJ9_min_7cf53_1 : decode cJ9_min_7cf53 1 = .ok (.iload_n 1, 1) := by decide +kernel
theorem dJ9_min_7cf53_2 : decode cJ9_min_7cf53 2 = .ok (.if_icmp .gt 7, 3) := by decide +kernel
theorem dJ9_min_7cf53_5 : decode cJ9_min_7cf53 5 = .ok (.iload_n 0, 1) := by decide +kernel
theorem dJ9_min_7cf53_6 : decode cJ9_min_7cf53 6 = .ok (.goto 4, 3) := by decide +kernel
theorem dJ9_min_7cf53_9 : decode cJ9_min_7cf53 9 = .ok (.iload_n 1, 1) := by decide +kernel
theorem dJ9_min_7cf53_10 : decode cJ9_min_7cf53 10 = .ok (.ireturn, 1) := by decide +kernel
theorem dJ0_length_8abf5_0 : decode cJ0_length_8abf5 0 = .ok (.aload_n 0, 1) := by decide +kernel
theorem dJ0_length_8abf5_1 : decode cJ0_length_8abf5 1 = .ok (.getfield 9, 3) := by decide +kernel
theorem dJ0_length_8abf5_4 : decode cJ0_length_8abf5 4 = .ok (.arraylength, 1) := by decide +kernel
theorem dJ0_length_8abf5_5 : decode cJ0_length_8abf5 5 = .ok (.aload_n 0, 1) := by decide +kernel
theorem dJ0_length_8abf5_6 : decode cJ0_length_8abf5 6 = .ok (.invokevirtual 335, 3) := by decide +kernel
theorem dJ0_length_8abf5_9 : decode cJ0_length_8abf5 9 = .ok (.ishr, 1) := by decide +kernel
theorem dJ0_length_8abf5_10 : decode cJ0_length_8abf5 10 = .ok (.ireturn, 1) := by decide +kernel
theorem dJ0_charAt_5068e_0 : decode cJ0_charAt_5068e 0 = .ok (.aload_n 0, 1) := by decide +kernel
theorem dJ0_charAt_5068e_1 : decode cJ0_charAt_5068e 1 = .ok (.invokevirtual 492, 3) := by decide +kernel
theorem dJ0_charAt_5068e_4 : decode cJ0_charAt_5068e 4 = .ok (.ifCond .eq 12, 3) := by decide +kernel
theorem dJ0_charAt_5068e_7 : decode cJ0_charAt_5068e 7 = .ok (.aload_n 0, 1) := by decide +kernel
theorem dJ0_charAt_5068e_8 : decode cJ0_charAt_5068e 8 = .ok (.getfield 9, 3) := by decide +kernel
theorem dJ0_charAt_5068e_11 : decode cJ0_charAt_5068e 11 = .ok (.iload_n 1, 1) := by decide +kernel
theorem dJ0_charAt_5068e_12 : decode cJ0_charAt_5068e 12 = .ok (.invokestatic 495, 3) := by decide +kernel
theorem dJ0_charAt_5068e_15 : decode cJ0_charAt_5068e 15 = .ok (.ireturn, 1) := by decide +kernel
theorem dJ0_charAt_5068e_16 : decode cJ0_charAt_5068e 16 = .ok (.aload_n 0, 1) := by decide +kernel
theorem dJ0_charAt_5068e_17 : decode cJ0_charAt_5068e 17 = .ok (.getfield 9, 3) := by decide +kernel
theorem dJ0_charAt_5068e_20 : decode cJ0_charAt_5068e 20 = .ok (.iload_n 1, 1) := by decide +kernel
theorem dJ0_charAt_5068e_21 : decode cJ0_charAt_5068e 21 = .ok (.invokestatic 498, 3) := by decide +kernel
theorem dJ0_charAt_5068e_24 : decode cJ0_charAt_5068e 24 = .ok (.ireturn, 1) := by decide +kernel
theorem dJ0_coder_7d493_0 : decode cJ0_coder_7d493 0 = .ok (.getstatic 38, 3) := by decide +kernel
theorem dJ0_coder_7d493_3 : decode cJ0_coder_7d493 3 = .ok (.ifCond .eq 10, 3) := by decide +kernel
theorem dJ0_coder_7d493_6 : decode cJ0_coder_7d493 6 = .ok (.aload_n 0, 1) := by decide +kernel
theorem dJ0_coder_7d493_7 : decode cJ0_coder_7d493 7 = .ok (.getfield 15, 3) := by decide +kernel
theorem dJ0_coder_7d493_10 : decode cJ0_coder_7d493 10 = .ok (.goto 4, 3) := by decide +kernel
theorem dJ0_coder_7d493_13 : decode cJ0_coder_7d493 13 = .ok (.iconst 1, 1) := by decide +kernel
theorem dJ0_coder_7d493_14 : decode cJ0_coder_7d493 14 = .ok (.ireturn, 1) := by decide +kernel
theorem dJ0_isLatin1_aae02_0 : decode cJ0_isLatin1_aae02 0 = .ok (.getstatic 38, 3) := by decide +kernel
theorem dJ0_isLatin1_aae02_3 : decode cJ0_isLatin1_aae02 3 = .ok (.ifCond .eq 14, 3) := by decide +kernel
theorem dJ0_isLatin1_aae02_6 : decode cJ0_isLatin1_aae02 6 = .ok (.aload_n 0, 1) := by decide +kernel
theorem dJ0_isLatin1_aae02_7 : decode cJ0_isLatin1_aae02 7 = .ok (.getfield 15, 3) := by decide +kernel
theorem dJ0_isLatin1_aae02_10 : decode cJ0_isLatin1_aae02 10 = .ok (.ifCond .ne 7, 3) := by decide +kernel
theorem dJ0_isLatin1_aae02_13 : decode cJ0_isLatin1_aae02 13 = .ok (.iconst 1, 1) := by decide +kernel
theorem dJ0_isLatin1_aae02_14 : decode cJ0_isLatin1_aae02 14 = .ok (.goto 4, 3) := by decide +kernel
theorem dJ0_isLatin1_aae02_17 : decode cJ0_isLatin1_aae02 17 = .ok (.iconst 0, 1) := by decide +kernel
theorem dJ0_isLatin1_aae02_18 : decode cJ0_isLatin1_aae02 18 = .ok (.ireturn, 1) := by decide +kernel
theorem dJ0_checkIndex_df160_0 : decode cJ0_checkIndex_df160 0 = .ok (.iload_n 0, 1) := by decide +kernel
theorem dJ0_checkIndex_df160_1 : decode cJ0_checkIndex_df160 1 = .ok (.iload_n 1, 1) := by decide +kernel
theorem dJ0_checkIndex_df160_2 : decode cJ0_checkIndex_df160 2 = .ok (.getstatic 1053, 3) := by decide +kernel
theorem dJ0_checkIndex_df160_5 : decode cJ0_checkIndex_df160 5 = .ok (.invokestatic 1059, 3) := by decide +kernel
theorem dJ0_checkIndex_df160_8 : decode cJ0_checkIndex_df160 8 = .ok (.pop, 1) := by decide +kernel
theorem dJ0_checkIndex_df160_9 : decode cJ0_checkIndex_df160 9 = .ok (.return_, 1) := by decide +kernel
theorem dJ1_charAt_3b067_0 : decode cJ1_charAt_3b067 0 = .ok (.iload_n 1, 1) := by decide +kernel
theorem dJ1_charAt_3b067_1 : decode cJ1_charAt_3b067 1 = .ok (.aload_n 0, 1) := by decide +kernel
theorem dJ1_charAt_3b067_2 : decode cJ1_charAt_3b067 2 = .ok (.arraylength, 1) := by decide +kernel
theorem dJ1_charAt_3b067_3 : decode cJ1_charAt_3b067 3 = .ok (.invokestatic 9, 3) := by decide +kernel
theorem dJ1_charAt_3b067_6 : decode cJ1_charAt_3b067 6 = .ok (.aload_n 0, 1) := by decide +kernel
theorem dJ1_charAt_3b067_7 : decode cJ1_charAt_3b067 7 = .ok (.iload_n 1, 1) := by decide +kernel
theorem dJ1_charAt_3b067_8 : decode cJ1_charAt_3b067 8 = .ok (.baload, 1) := by decide +kernel
theorem dJ1_charAt_3b067_9 : decode cJ1_charAt_3b067 9 = .ok (.sipush 255, 3) := by decide +kernel
theorem dJ1_charAt_3b067_12 : decode cJ1_charAt_3b067 12 = .ok (.iand, 1) := by decide +kernel
theorem dJ1_charAt_3b067_13 : decode cJ1_charAt_3b067 13 = .ok (.i2c, 1) := by decide +kernel
theorem dJ1_charAt_3b067_14 : decode cJ1_charAt_3b067 14 = .ok (.ireturn, 1) := by decide +kernel
theorem dJ2_getChar_3b067_0 : decode cJ2_getChar_3b067 0 = .ok (.getstatic 44, 3) := by decide +kernel
theorem dJ2_getChar_3b067_3 : decode cJ2_getChar_3b067 3 = .ok (.ifCond .ne 25, 3) := by decide +kernel
theorem dJ2_getChar_3b067_6 : decode cJ2_getChar_3b067 6 = .ok (.iload_n 1, 1) := by decide +kernel
theorem dJ2_getChar_3b067_7 : decode cJ2_getChar_3b067 7 = .ok (.ifCond .lt 11, 3) := by decide +kernel
theorem dJ2_getChar_3b067_10 : decode cJ2_getChar_3b067 10 = .ok (.iload_n 1, 1) := by decide +kernel
theorem dJ2_getChar_3b067_11 : decode cJ2_getChar_3b067 11 = .ok (.aload_n 0, 1) := by decide +kernel
theorem dJ2_getChar_3b067_12 : decode cJ2_getChar_3b067 12 = .ok (.invokestatic 48, 3) := by decide +kernel
theorem dJ2_getChar_3b067_15 : decode cJ2_getChar_3b067 15 = .ok (.if_icmp .lt 13, 3) := by decide +kernel
theorem dJ2_getChar_3b067_18 : decode cJ2_getChar_3b067 18 = .ok (.new 52, 3) := by decide +kernel
theorem dJ2_getChar_3b067_21 : decode cJ2_getChar_3b067 21 = .ok (.dup, 1) := by decide +kernel
theorem dJ2_getChar_3b067_22 : decode cJ2_getChar_3b067 22 = .ok (.ldc 54, 2) := by decide +kernel
theorem dJ2_getChar_3b067_24 : decode cJ2_getChar_3b067 24 = .ok (.invokespecial 56, 3) := by decide +kernel
theorem dJ2_getChar_3b067_27 : decode cJ2_getChar_3b067 27 = .ok (.athrow, 1) := by decide +kernel
theorem dJ2_getChar_3b067_28 : decode cJ2_getChar_3b067 28 = .ok (.iload_n 1, 1) := by decide +kernel
theorem dJ2_getChar_3b067_29 : decode cJ2_getChar_3b067 29 = .ok (.iconst 1, 1) := by decide +kernel
theorem dJ2_getChar_3b067_30 : decode cJ2_getChar_3b067 30 = .ok (.ishl, 1) := by decide +kernel
theorem dJ2_getChar_3b067_31 : decode cJ2_getChar_3b067 31 = .ok (.istore_n 1, 1) := by decide +kernel
theorem dJ2_getChar_3b067_32 : decode cJ2_getChar_3b067 32 = .ok (.aload_n 0, 1) := by decide +kernel
theorem dJ2_getChar_3b067_33 : decode cJ2_getChar_3b067 33 = .ok (.iload_n 1, 1) := by decide +kernel
theorem dJ2_getChar_3b067_34 : decode cJ2_getChar_3b067 34 = .ok (.iinc 1 1, 3) := by decide +kernel
theorem dJ2_getChar_3b067_37 : decode cJ2_getChar_3b067 37 = .ok (.baload, 1) := by decide +kernel
theorem dJ2_getChar_3b067_38 : decode cJ2_getChar_3b067 38 = .ok (.sipush 255, 3) := by decide +kernel
theorem dJ2_getChar_3b067_41 : decode cJ2_getChar_3b067 41 = .ok (.iand, 1) := by decide +kernel
theorem dJ2_getChar_3b067_42 : decode cJ2_getChar_3b067 42 = .ok (.getstatic 59, 3) := by decide +kernel
theorem dJ2_getChar_3b067_45 : decode cJ2_getChar_3b067 45 = .ok (.ishl, 1) := by decide +kernel
theorem dJ2_getChar_3b067_46 : decode cJ2_getChar_3b067 46 = .ok (.aload_n 0, 1) := by decide +kernel
theorem dJ2_getChar_3b067_47 : decode cJ2_getChar_3b067 47 = .ok (.iload_n 1, 1) := by decide +kernel
theorem dJ2_getChar_3b067_48 : decode cJ2_getChar_3b067 48 = .ok (.baload, 1) := by decide +kernel
theorem dJ2_getChar_3b067_49 : decode cJ2_getChar_3b067 49 = .ok (.sipush 255, 3) := by decide +kernel
theorem dJ2_getChar_3b067_52 : decode cJ2_getChar_3b067 52 = .ok (.iand, 1) := by decide +kernel
theorem dJ2_getChar_3b067_53 : decode cJ2_getChar_3b067 53 = .ok (.getstatic 63, 3) := by decide +kernel
theorem dJ2_getChar_3b067_56 : decode cJ2_getChar_3b067 56 = .ok (.ishl, 1) := by decide +kernel
theorem dJ2_getChar_3b067_57 : decode cJ2_getChar_3b067 57 = .ok (.ior, 1) := by decide +kernel
theorem dJ2_getChar_3b067_58 : decode cJ2_getChar_3b067 58 = .ok (.i2c, 1) := by decide +kernel
theorem dJ2_getChar_3b067_59 : decode cJ2_getChar_3b067 59 = .ok (.ireturn, 1) := by decide +kernel
theorem dJ2_length_9d52b_0 : decode cJ2_length_9d52b 0 = .ok (.aload_n 0, 1) := by decide +kernel
theorem dJ2_length_9d52b_1 : decode cJ2_length_9d52b 1 = .ok (.arraylength, 1) := by decide +kernel
theorem dJ2_length_9d52b_2 : decode cJ2_length_9d52b 2 = .ok (.iconst 1, 1) := by decide +kernel
theorem dJ2_length_9d52b_3 : decode cJ2_length_9d52b 3 = .ok (.ishr, 1) := by decide +kernel
theorem dJ2_length_9d52b_4 : decode cJ2_length_9d52b 4 = .ok (.ireturn, 1) := by decide +kernel
theorem dJ2_charAt_3b067_0 : decode cJ2_charAt_3b067 0 = .ok (.iload_n 1, 1) := by decide +kernel
theorem dJ2_charAt_3b067_1 : decode cJ2_charAt_3b067 1 = .ok (.aload_n 0, 1) := by decide +kernel
theorem dJ2_charAt_3b067_2 : decode cJ2_charAt_3b067 2 = .ok (.invokestatic 67, 3) := by decide +kernel
theorem dJ2_charAt_3b067_5 : decode cJ2_charAt_3b067 5 = .ok (.aload_n 0, 1) := by decide +kernel
theorem dJ2_charAt_3b067_6 : decode cJ2_charAt_3b067 6 = .ok (.iload_n 1, 1) := by decide +kernel
theorem dJ2_charAt_3b067_7 : decode cJ2_charAt_3b067 7 = .ok (.invokestatic 71, 3) := by decide +kernel
theorem dJ2_charAt_3b067_10 : decode cJ2_charAt_3b067 10 = .ok (.ireturn, 1) := by decide +kernel
theorem dJ2_checkIndex_2214a_0 : decode cJ2_checkIndex_2214a 0 = .ok (.iload_n 0, 1) := by decide +kernel
theorem dJ2_checkIndex_2214a_1 : decode cJ2_checkIndex_2214a 1 = .ok (.aload_n 1, 1) := by decide +kernel
theorem dJ2_checkIndex_2214a_2 : decode cJ2_checkIndex_2214a 2 = .ok (.invokestatic 48, 3) := by decide +kernel
theorem dJ2_checkIndex_2214a_5 : decode cJ2_checkIndex_2214a 5 = .ok (.invokestatic 414, 3) := by decide +kernel
theorem dJ2_checkIndex_2214a_8 : decode cJ2_checkIndex_2214a 8 = .ok (.return_, 1) := by decide +kernel
theorem dJ3_checkIndex_8e157_0 : decode cJ3_checkIndex_8e157 0 = .ok (.iload_n 0, 1) := by decide +kernel
theorem dJ3_checkIndex_8e157_1 : decode cJ3_checkIndex_8e157 1 = .ok (.ifCond .lt 8, 3) := by decide +kernel
theorem dJ3_checkIndex_8e157_4 : decode cJ3_checkIndex_8e157 4 = .ok (.iload_n 0, 1) := by decide +kernel
theorem dJ3_checkIndex_8e157_5 : decode cJ3_checkIndex_8e157 5 = .ok (.iload_n 1, 1) := by decide +kernel
theorem dJ3_checkIndex_8e157_6 : decode cJ3_checkIndex_8e157 6 = .ok (.if_icmp .lt 10, 3) := by decide +kernel
theorem dJ3_checkIndex_8e157_9 : decode cJ3_checkIndex_8e157 9 = .ok (.aload_n 2, 1) := by decide +kernel
theorem dJ3_checkIndex_8e157_10 : decode cJ3_checkIndex_8e157 10 = .ok (.iload_n 0, 1) := by decide +kernel
theorem dJ3_checkIndex_8e157_11 : decode cJ3_checkIndex_8e157 11 = .ok (.iload_n 1, 1) := by decide +kernel
theorem dJ3_checkIndex_8e157_12 : decode cJ3_checkIndex_8e157 12 = .ok (.invokestatic 95, 3) := by decide +kernel
theorem dJ3_checkIndex_8e157_15 : decode cJ3_checkIndex_8e157 15 = .ok (.athrow, 1) := by decide +kernel
theorem dJ3_checkIndex_8e157_16 : decode cJ3_checkIndex_8e157 16 = .ok (.iload_n 0, 1) := by decide +kernel
theorem dJ3_checkIndex_8e157_17 : decode cJ3_checkIndex_8e157 17 = .ok (.ireturn, 1) := by decide +kernel
