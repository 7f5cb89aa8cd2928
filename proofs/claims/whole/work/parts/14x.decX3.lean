theorem dX3_init_0 : decode cX3_init 0 = .ok (.aload_n 0, 1) := by decide +kernel
theorem dX3_init_1 : decode cX3_init 1 = .ok (.invokespecial 3, 3) := by decide +kernel
theorem dX3_init_4 : decode cX3_init 4 = .ok (.aload_n 0, 1) := by decide +kernel
theorem dX3_init_5 : decode cX3_init 5 = .ok (.new 9, 3) := by decide +kernel
theorem dX3_init_8 : decode cX3_init 8 = .ok (.dup, 1) := by decide +kernel
theorem dX3_init_9 : decode cX3_init 9 = .ok (.invokespecial 11, 3) := by decide +kernel
theorem dX3_init_12 : decode cX3_init 12 = .ok (.putfield 12, 3) := by decide +kernel
theorem dX3_init_15 : decode cX3_init 15 = .ok (.aload_n 0, 1) := by decide +kernel
theorem dX3_init_16 : decode cX3_init 16 = .ok (.new 9, 3) := by decide +kernel
theorem dX3_init_19 : decode cX3_init 19 = .ok (.dup, 1) := by decide +kernel
theorem dX3_init_20 : decode cX3_init 20 = .ok (.invokespecial 11, 3) := by decide +kernel
theorem dX3_init_23 : decode cX3_init 23 = .ok (.putfield 16, 3) := by decide +kernel
theorem dX3_init_26 : decode cX3_init 26 = .ok (.aload_n 0, 1) := by decide +kernel
theorem dX3_init_27 : decode cX3_init 27 = .ok (.new 9, 3) := by decide +kernel
theorem dX3_init_30 : decode cX3_init 30 = .ok (.dup, 1) := by decide +kernel
theorem dX3_init_31 : decode cX3_init 31 = .ok (.invokespecial 11, 3) := by decide +kernel
theorem dX3_init_34 : decode cX3_init 34 = .ok (.putfield 19, 3) := by decide +kernel
theorem dX3_init_37 : decode cX3_init 37 = .ok (.aload_n 0, 1) := by decide +kernel
theorem dX3_init_38 : decode cX3_init 38 = .ok (.new 22, 3) := by decide +kernel
theorem dX3_init_41 : decode cX3_init 41 = .ok (.dup, 1) := by decide +kernel
theorem dX3_init_42 : decode cX3_init 42 = .ok (.invokespecial 24, 3) := by decide +kernel
theorem dX3_init_45 : decode cX3_init 45 = .ok (.putfield 25, 3) := by decide +kernel
theorem dX3_init_48 : decode cX3_init 48 = .ok (.aload_n 0, 1) := by decide +kernel
theorem dX3_init_49 : decode cX3_init 49 = .ok (.iconst 4, 1) := by decide +kernel
theorem dX3_init_50 : decode cX3_init 50 = .ok (.anewarray 29, 3) := by decide +kernel
theorem dX3_init_53 : decode cX3_init 53 = .ok (.putfield 31, 3) := by decide +kernel
theorem dX3_init_56 : decode cX3_init 56 = .ok (.iconst 0, 1) := by decide +kernel
theorem dX3_init_57 : decode cX3_init 57 = .ok (.istore_n 1, 1) := by decide +kernel
theorem dX3_init_58 : decode cX3_init 58 = .ok (.iload_n 1, 1) := by decide +kernel
theorem dX3_init_59 : decode cX3_init 59 = .ok (.iconst 4, 1) := by decide +kernel
theorem dX3_init_60 : decode cX3_init 60 = .ok (.if_icmp .ge 22, 3) := by decide +kernel
theorem dX3_init_63 : decode cX3_init 63 = .ok (.aload_n 0, 1) := by decide +kernel
theorem dX3_init_64 : decode cX3_init 64 = .ok (.getfield 31, 3) := by decide +kernel
theorem dX3_init_67 : decode cX3_init 67 = .ok (.iload_n 1, 1) := by decide +kernel
theorem dX3_init_68 : decode cX3_init 68 = .ok (.new 29, 3) := by decide +kernel
theorem dX3_init_71 : decode cX3_init 71 = .ok (.dup, 1) := by decide +kernel
theorem dX3_init_72 : decode cX3_init 72 = .ok (.invokespecial 35, 3) := by decide +kernel
theorem dX3_init_75 : decode cX3_init 75 = .ok (.aastore, 1) := by decide +kernel
theorem dX3_init_76 : decode cX3_init 76 = .ok (.iinc 1 1, 3) := by decide +kernel
theorem dX3_init_79 : decode cX3_init 79 = .ok (.goto (-21), 3) := by decide +kernel
theorem dX3_init_82 : decode cX3_init 82 = .ok (.aload_n 0, 1) := by decide +kernel
theorem dX3_init_83 : decode cX3_init 83 = .ok (.bipush 7, 2) := by decide +kernel
theorem dX3_init_85 : decode cX3_init 85 = .ok (.newarray .int, 2) := by decide +kernel
theorem dX3_init_87 : decode cX3_init 87 = .ok (.putfield 36, 3) := by decide +kernel
theorem dX3_init_90 : decode cX3_init 90 = .ok (.aload_n 0, 1) := by decide +kernel
theorem dX3_init_91 : decode cX3_init 91 = .ok (.iconst 0, 1) := by decide +kernel
theorem dX3_init_92 : decode cX3_init 92 = .ok (.putfield 40, 3) := by decide +kernel
theorem dX3_init_95 : decode cX3_init 95 = .ok (.return_, 1) := by decide +kernel
theorem dX3_list_0 : decode cX3_list 0 = .ok (.iload_n 1, 1) := by decide +kernel
theorem dX3_list_1 : decode cX3_list 1 = .ok (.invokestatic 44, 3) := by decide +kernel
theorem dX3_list_4 : decode cX3_list 4 = .ok (.ifCond .eq 22, 3) := by decide +kernel
theorem dX3_list_7 : decode cX3_list 7 = .ok (.iload_n 2, 1) := by decide +kernel
theorem dX3_list_8 : decode cX3_list 8 = .ok (.iconst 0, 1) := by decide +kernel
theorem dX3_list_9 : decode cX3_list 9 = .ok (.iconst 5, 1) := by decide +kernel
theorem dX3_list_10 : decode cX3_list 10 = .ok (.invokestatic 48, 3) := by decide +kernel
theorem dX3_list_13 : decode cX3_list 13 = .ok (.ifCond .eq 13, 3) := by decide +kernel
theorem dX3_list_16 : decode cX3_list 16 = .ok (.iload_n 3, 1) := by decide +kernel
theorem dX3_list_17 : decode cX3_list 17 = .ok (.iconst 0, 1) := by decide +kernel
theorem dX3_list_18 : decode cX3_list 18 = .ok (.bipush 7, 2) := by decide +kernel
theorem dX3_list_20 : decode cX3_list 20 = .ok (.invokestatic 48, 3) := by decide +kernel
theorem dX3_list_23 : decode cX3_list 23 = .ok (.ifCond .ne 10, 3) := by decide +kernel
theorem dX3_list_26 : decode cX3_list 26 = .ok (.aload_n 0, 1) := by decide +kernel
theorem dX3_list_27 : decode cX3_list 27 = .ok (.ldc 52, 2) := by decide +kernel
theorem dX3_list_29 : decode cX3_list 29 = .ok (.invokevirtual 53, 3) := by decide +kernel
theorem dX3_list_32 : decode cX3_list 32 = .ok (.ireturn, 1) := by decide +kernel
theorem dX3_list_33 : decode cX3_list 33 = .ok (.aload_n 0, 1) := by decide +kernel
theorem dX3_list_34 : decode cX3_list 34 = .ok (.getfield 12, 3) := by decide +kernel
theorem dX3_list_37 : decode cX3_list 37 = .ok (.getfield 57, 3) := by decide +kernel
theorem dX3_list_40 : decode cX3_list 40 = .ok (.iload_n 1, 1) := by decide +kernel
theorem dX3_list_41 : decode cX3_list 41 = .ok (.iaload, 1) := by decide +kernel
theorem dX3_list_42 : decode cX3_list 42 = .ok (.istore 4, 2) := by decide +kernel
theorem dX3_list_44 : decode cX3_list 44 = .ok (.aload_n 0, 1) := by decide +kernel
theorem dX3_list_45 : decode cX3_list 45 = .ok (.getfield 12, 3) := by decide +kernel
theorem dX3_list_48 : decode cX3_list 48 = .ok (.iload_n 1, 1) := by decide +kernel
theorem dX3_list_49 : decode cX3_list 49 = .ok (.iload_n 2, 1) := by decide +kernel
theorem dX3_list_50 : decode cX3_list 50 = .ok (.iload_n 3, 1) := by decide +kernel
theorem dX3_list_51 : decode cX3_list 51 = .ok (.invokevirtual 60, 3) := by decide +kernel
theorem dX3_list_54 : decode cX3_list 54 = .ok (.iload 4, 2) := by decide +kernel
theorem dX3_list_56 : decode cX3_list 56 = .ok (.ireturn, 1) := by decide +kernel
theorem dX3_listed_0 : decode cX3_listed 0 = .ok (.iload_n 1, 1) := by decide +kernel
theorem dX3_listed_1 : decode cX3_listed 1 = .ok (.invokestatic 44, 3) := by decide +kernel
theorem dX3_listed_4 : decode cX3_listed 4 = .ok (.ifCond .ne 10, 3) := by decide +kernel
theorem dX3_listed_7 : decode cX3_listed 7 = .ok (.aload_n 0, 1) := by decide +kernel
theorem dX3_listed_8 : decode cX3_listed 8 = .ok (.ldc 52, 2) := by decide +kernel
theorem dX3_listed_10 : decode cX3_listed 10 = .ok (.invokevirtual 53, 3) := by decide +kernel
theorem dX3_listed_13 : decode cX3_listed 13 = .ok (.ireturn, 1) := by decide +kernel
theorem dX3_listed_14 : decode cX3_listed 14 = .ok (.aload_n 0, 1) := by decide +kernel
theorem dX3_listed_15 : decode cX3_listed 15 = .ok (.getfield 12, 3) := by decide +kernel
theorem dX3_listed_18 : decode cX3_listed 18 = .ok (.getfield 57, 3) := by decide +kernel
theorem dX3_listed_21 : decode cX3_listed 21 = .ok (.iload_n 1, 1) := by decide +kernel
theorem dX3_listed_22 : decode cX3_listed 22 = .ok (.iaload, 1) := by decide +kernel
theorem dX3_listed_23 : decode cX3_listed 23 = .ok (.ireturn, 1) := by decide +kernel
theorem dX3_dish_0 : decode cX3_dish 0 = .ok (.iload_n 1, 1) := by decide +kernel
theorem dX3_dish_1 : decode cX3_dish 1 = .ok (.invokestatic 64, 3) := by decide +kernel
theorem dX3_dish_4 : decode cX3_dish 4 = .ok (.ifCond .eq 17, 3) := by decide +kernel
theorem dX3_dish_7 : decode cX3_dish 7 = .ok (.iload_n 2, 1) := by decide +kernel
theorem dX3_dish_8 : decode cX3_dish 8 = .ok (.invokestatic 67, 3) := by decide +kernel
theorem dX3_dish_11 : decode cX3_dish 11 = .ok (.ifCond .eq 10, 3) := by decide +kernel
theorem dX3_dish_14 : decode cX3_dish 14 = .ok (.iload_n 3, 1) := by decide +kernel
theorem dX3_dish_15 : decode cX3_dish 15 = .ok (.invokestatic 67, 3) := by decide +kernel
theorem dX3_dish_18 : decode cX3_dish 18 = .ok (.ifCond .ne 10, 3) := by decide +kernel
theorem dX3_dish_21 : decode cX3_dish 21 = .ok (.aload_n 0, 1) := by decide +kernel
theorem dX3_dish_22 : decode cX3_dish 22 = .ok (.ldc 52, 2) := by decide +kernel
theorem dX3_dish_24 : decode cX3_dish 24 = .ok (.invokevirtual 53, 3) := by decide +kernel
theorem dX3_dish_27 : decode cX3_dish 27 = .ok (.ireturn, 1) := by decide +kernel
theorem dX3_dish_28 : decode cX3_dish 28 = .ok (.aload_n 0, 1) := by decide +kernel
theorem dX3_dish_29 : decode cX3_dish 29 = .ok (.getfield 12, 3) := by decide +kernel
theorem dX3_dish_32 : decode cX3_dish 32 = .ok (.getfield 70, 3) := by decide +kernel
theorem dX3_dish_35 : decode cX3_dish 35 = .ok (.bipush 8, 2) := by decide +kernel
theorem dX3_dish_37 : decode cX3_dish 37 = .ok (.if_icmp .lt 10, 3) := by decide +kernel
theorem dX3_dish_40 : decode cX3_dish 40 = .ok (.aload_n 0, 1) := by decide +kernel
theorem dX3_dish_41 : decode cX3_dish 41 = .ok (.ldc 74, 2) := by decide +kernel
theorem dX3_dish_43 : decode cX3_dish 43 = .ok (.invokevirtual 53, 3) := by decide +kernel
theorem dX3_dish_46 : decode cX3_dish 46 = .ok (.ireturn, 1) := by decide +kernel
theorem dX3_dish_47 : decode cX3_dish 47 = .ok (.aload_n 0, 1) := by decide +kernel
theorem dX3_dish_48 : decode cX3_dish 48 = .ok (.getfield 12, 3) := by decide +kernel
theorem dX3_dish_51 : decode cX3_dish 51 = .ok (.iload_n 1, 1) := by decide +kernel
theorem dX3_dish_52 : decode cX3_dish 52 = .ok (.iload_n 2, 1) := by decide +kernel
theorem dX3_dish_53 : decode cX3_dish 53 = .ok (.iload_n 3, 1) := by decide +kernel
theorem dX3_dish_54 : decode cX3_dish 54 = .ok (.invokevirtual 75, 3) := by decide +kernel
theorem dX3_dish_57 : decode cX3_dish 57 = .ok (.ireturn, 1) := by decide +kernel
theorem dX3_guest_0 : decode cX3_guest 0 = .ok (.iload_n 1, 1) := by decide +kernel
theorem dX3_guest_1 : decode cX3_guest 1 = .ok (.invokestatic 79, 3) := by decide +kernel
theorem dX3_guest_4 : decode cX3_guest 4 = .ok (.ifCond .ne 10, 3) := by decide +kernel
theorem dX3_guest_7 : decode cX3_guest 7 = .ok (.aload_n 0, 1) := by decide +kernel
theorem dX3_guest_8 : decode cX3_guest 8 = .ok (.ldc 52, 2) := by decide +kernel
theorem dX3_guest_10 : decode cX3_guest 10 = .ok (.invokevirtual 53, 3) := by decide +kernel
theorem dX3_guest_13 : decode cX3_guest 13 = .ok (.ireturn, 1) := by decide +kernel
theorem dX3_guest_14 : decode cX3_guest 14 = .ok (.aload_n 0, 1) := by decide +kernel
theorem dX3_guest_15 : decode cX3_guest 15 = .ok (.getfield 12, 3) := by decide +kernel
theorem dX3_guest_18 : decode cX3_guest 18 = .ok (.getfield 82, 3) := by decide +kernel
theorem dX3_guest_21 : decode cX3_guest 21 = .ok (.bipush 6, 2) := by decide +kernel
theorem dX3_guest_23 : decode cX3_guest 23 = .ok (.if_icmp .lt 10, 3) := by decide +kernel
theorem dX3_guest_26 : decode cX3_guest 26 = .ok (.aload_n 0, 1) := by decide +kernel
theorem dX3_guest_27 : decode cX3_guest 27 = .ok (.ldc 74, 2) := by decide +kernel
theorem dX3_guest_29 : decode cX3_guest 29 = .ok (.invokevirtual 53, 3) := by decide +kernel
theorem dX3_guest_32 : decode cX3_guest 32 = .ok (.ireturn, 1) := by decide +kernel
theorem dX3_guest_33 : decode cX3_guest 33 = .ok (.aload_n 0, 1) := by decide +kernel
theorem dX3_guest_34 : decode cX3_guest 34 = .ok (.getfield 12, 3) := by decide +kernel
theorem dX3_guest_37 : decode cX3_guest 37 = .ok (.iload_n 1, 1) := by decide +kernel
theorem dX3_guest_38 : decode cX3_guest 38 = .ok (.invokevirtual 85, 3) := by decide +kernel
theorem dX3_guest_41 : decode cX3_guest 41 = .ok (.ireturn, 1) := by decide +kernel
theorem dX3_of_0 : decode cX3_of 0 = .ok (.aload_n 0, 1) := by decide +kernel
theorem dX3_of_1 : decode cX3_of 1 = .ok (.getfield 12, 3) := by decide +kernel
theorem dX3_of_4 : decode cX3_of 4 = .ok (.iload_n 1, 1) := by decide +kernel
theorem dX3_of_5 : decode cX3_of 5 = .ok (.invokevirtual 88, 3) := by decide +kernel
theorem dX3_of_8 : decode cX3_of 8 = .ok (.ifCond .eq 12, 3) := by decide +kernel
theorem dX3_of_11 : decode cX3_of 11 = .ok (.iload_n 2, 1) := by decide +kernel
theorem dX3_of_12 : decode cX3_of 12 = .ok (.iconst 0, 1) := by decide +kernel
theorem dX3_of_13 : decode cX3_of 13 = .ok (.iconst 5, 1) := by decide +kernel
theorem dX3_of_14 : decode cX3_of 14 = .ok (.invokestatic 48, 3) := by decide +kernel
theorem dX3_of_17 : decode cX3_of 17 = .ok (.ifCond .ne 10, 3) := by decide +kernel
theorem dX3_of_20 : decode cX3_of 20 = .ok (.aload_n 0, 1) := by decide +kernel
theorem dX3_of_21 : decode cX3_of 21 = .ok (.ldc 52, 2) := by decide +kernel
theorem dX3_of_23 : decode cX3_of 23 = .ok (.invokevirtual 53, 3) := by decide +kernel
theorem dX3_of_26 : decode cX3_of 26 = .ok (.ireturn, 1) := by decide +kernel
theorem dX3_of_27 : decode cX3_of 27 = .ok (.aload_n 0, 1) := by decide +kernel
theorem dX3_of_28 : decode cX3_of 28 = .ok (.getfield 12, 3) := by decide +kernel
theorem dX3_of_31 : decode cX3_of 31 = .ok (.iload_n 1, 1) := by decide +kernel
theorem dX3_of_32 : decode cX3_of 32 = .ok (.iload_n 2, 1) := by decide +kernel
theorem dX3_of_33 : decode cX3_of 33 = .ok (.invokevirtual 91, 3) := by decide +kernel
theorem dX3_of_36 : decode cX3_of 36 = .ok (.ireturn, 1) := by decide +kernel
theorem dX3_change_0 : decode cX3_change 0 = .ok (.aload_n 0, 1) := by decide +kernel
theorem dX3_change_1 : decode cX3_change 1 = .ok (.getfield 12, 3) := by decide +kernel
theorem dX3_change_4 : decode cX3_change 4 = .ok (.iload_n 1, 1) := by decide +kernel
theorem dX3_change_5 : decode cX3_change 5 = .ok (.invokevirtual 88, 3) := by decide +kernel
theorem dX3_change_8 : decode cX3_change 8 = .ok (.ifCond .eq 25, 3) := by decide +kernel
theorem dX3_change_11 : decode cX3_change 11 = .ok (.iload_n 2, 1) := by decide +kernel
theorem dX3_change_12 : decode cX3_change 12 = .ok (.iconst 0, 1) := by decide +kernel
theorem dX3_change_13 : decode cX3_change 13 = .ok (.iconst 5, 1) := by decide +kernel
theorem dX3_change_14 : decode cX3_change 14 = .ok (.invokestatic 48, 3) := by decide +kernel
theorem dX3_change_17 : decode cX3_change 17 = .ok (.ifCond .eq 16, 3) := by decide +kernel
theorem dX3_change_20 : decode cX3_change 20 = .ok (.iload_n 3, 1) := by decide +kernel
theorem dX3_change_21 : decode cX3_change 21 = .ok (.iconst 0, 1) := by decide +kernel
theorem dX3_change_22 : decode cX3_change 22 = .ok (.getstatic 95, 3) := by decide +kernel
theorem dX3_change_25 : decode cX3_change 25 = .ok (.iload_n 2, 1) := by decide +kernel
theorem dX3_change_26 : decode cX3_change 26 = .ok (.iaload, 1) := by decide +kernel
theorem dX3_change_27 : decode cX3_change 27 = .ok (.invokestatic 48, 3) := by decide +kernel
theorem dX3_change_30 : decode cX3_change 30 = .ok (.ifCond .ne 10, 3) := by decide +kernel
theorem dX3_change_33 : decode cX3_change 33 = .ok (.aload_n 0, 1) := by decide +kernel
theorem dX3_change_34 : decode cX3_change 34 = .ok (.ldc 52, 2) := by decide +kernel
theorem dX3_change_36 : decode cX3_change 36 = .ok (.invokevirtual 53, 3) := by decide +kernel
theorem dX3_change_39 : decode cX3_change 39 = .ok (.ireturn, 1) := by decide +kernel
theorem dX3_change_40 : decode cX3_change 40 = .ok (.aload_n 0, 1) := by decide +kernel
theorem dX3_change_41 : decode cX3_change 41 = .ok (.getfield 12, 3) := by decide +kernel
theorem dX3_change_44 : decode cX3_change 44 = .ok (.iload_n 1, 1) := by decide +kernel
theorem dX3_change_45 : decode cX3_change 45 = .ok (.iload_n 2, 1) := by decide +kernel
theorem dX3_change_46 : decode cX3_change 46 = .ok (.invokevirtual 91, 3) := by decide +kernel
theorem dX3_change_49 : decode cX3_change 49 = .ok (.istore 4, 2) := by decide +kernel
theorem dX3_change_51 : decode cX3_change 51 = .ok (.aload_n 0, 1) := by decide +kernel
theorem dX3_change_52 : decode cX3_change 52 = .ok (.getfield 12, 3) := by decide +kernel
theorem dX3_change_55 : decode cX3_change 55 = .ok (.iload_n 1, 1) := by decide +kernel
theorem dX3_change_56 : decode cX3_change 56 = .ok (.iload_n 2, 1) := by decide +kernel
theorem dX3_change_57 : decode cX3_change 57 = .ok (.iload_n 3, 1) := by decide +kernel
theorem dX3_change_58 : decode cX3_change 58 = .ok (.invokevirtual 98, 3) := by decide +kernel
theorem dX3_change_61 : decode cX3_change 61 = .ok (.iload 4, 2) := by decide +kernel
theorem dX3_change_63 : decode cX3_change 63 = .ok (.ireturn, 1) := by decide +kernel
theorem dX3_ofGuest_0 : decode cX3_ofGuest 0 = .ok (.aload_n 0, 1) := by decide +kernel
theorem dX3_ofGuest_1 : decode cX3_ofGuest 1 = .ok (.getfield 12, 3) := by decide +kernel
theorem dX3_ofGuest_4 : decode cX3_ofGuest 4 = .ok (.iload_n 1, 1) := by decide +kernel
theorem dX3_ofGuest_5 : decode cX3_ofGuest 5 = .ok (.invokevirtual 101, 3) := by decide +kernel
theorem dX3_ofGuest_8 : decode cX3_ofGuest 8 = .ok (.ifCond .eq 10, 3) := by decide +kernel
theorem dX3_ofGuest_11 : decode cX3_ofGuest 11 = .ok (.iload_n 2, 1) := by decide +kernel
theorem dX3_ofGuest_12 : decode cX3_ofGuest 12 = .ok (.invokestatic 104, 3) := by decide +kernel
theorem dX3_ofGuest_15 : decode cX3_ofGuest 15 = .ok (.ifCond .ne 10, 3) := by decide +kernel
theorem dX3_ofGuest_18 : decode cX3_ofGuest 18 = .ok (.aload_n 0, 1) := by decide +kernel
theorem dX3_ofGuest_19 : decode cX3_ofGuest 19 = .ok (.ldc 52, 2) := by decide +kernel
theorem dX3_ofGuest_21 : decode cX3_ofGuest 21 = .ok (.invokevirtual 53, 3) := by decide +kernel
theorem dX3_ofGuest_24 : decode cX3_ofGuest 24 = .ok (.ireturn, 1) := by decide +kernel
theorem dX3_ofGuest_25 : decode cX3_ofGuest 25 = .ok (.aload_n 0, 1) := by decide +kernel
theorem dX3_ofGuest_26 : decode cX3_ofGuest 26 = .ok (.getfield 12, 3) := by decide +kernel
theorem dX3_ofGuest_29 : decode cX3_ofGuest 29 = .ok (.iload_n 1, 1) := by decide +kernel
theorem dX3_ofGuest_30 : decode cX3_ofGuest 30 = .ok (.iload_n 2, 1) := by decide +kernel
theorem dX3_ofGuest_31 : decode cX3_ofGuest 31 = .ok (.invokevirtual 107, 3) := by decide +kernel
theorem dX3_ofGuest_34 : decode cX3_ofGuest 34 = .ok (.ireturn, 1) := by decide +kernel
theorem dX3_seat_0 : decode cX3_seat 0 = .ok (.aload_n 0, 1) := by decide +kernel
theorem dX3_seat_1 : decode cX3_seat 1 = .ok (.getfield 12, 3) := by decide +kernel
theorem dX3_seat_4 : decode cX3_seat 4 = .ok (.iload_n 1, 1) := by decide +kernel
theorem dX3_seat_5 : decode cX3_seat 5 = .ok (.invokevirtual 101, 3) := by decide +kernel
theorem dX3_seat_8 : decode cX3_seat 8 = .ok (.ifCond .eq 23, 3) := by decide +kernel
theorem dX3_seat_11 : decode cX3_seat 11 = .ok (.iload_n 2, 1) := by decide +kernel
theorem dX3_seat_12 : decode cX3_seat 12 = .ok (.invokestatic 104, 3) := by decide +kernel
theorem dX3_seat_15 : decode cX3_seat 15 = .ok (.ifCond .eq 16, 3) := by decide +kernel
theorem dX3_seat_18 : decode cX3_seat 18 = .ok (.iload_n 3, 1) := by decide +kernel
theorem dX3_seat_19 : decode cX3_seat 19 = .ok (.iconst 0, 1) := by decide +kernel
theorem dX3_seat_20 : decode cX3_seat 20 = .ok (.getstatic 110, 3) := by decide +kernel
theorem dX3_seat_23 : decode cX3_seat 23 = .ok (.iload_n 2, 1) := by decide +kernel
theorem dX3_seat_24 : decode cX3_seat 24 = .ok (.iaload, 1) := by decide +kernel
theorem dX3_seat_25 : decode cX3_seat 25 = .ok (.invokestatic 48, 3) := by decide +kernel
theorem dX3_seat_28 : decode cX3_seat 28 = .ok (.ifCond .ne 10, 3) := by decide +kernel
theorem dX3_seat_31 : decode cX3_seat 31 = .ok (.aload_n 0, 1) := by decide +kernel
theorem dX3_seat_32 : decode cX3_seat 32 = .ok (.ldc 52, 2) := by decide +kernel
theorem dX3_seat_34 : decode cX3_seat 34 = .ok (.invokevirtual 53, 3) := by decide +kernel
theorem dX3_seat_37 : decode cX3_seat 37 = .ok (.ireturn, 1) := by decide +kernel
theorem dX3_seat_38 : decode cX3_seat 38 = .ok (.aload_n 0, 1) := by decide +kernel
theorem dX3_seat_39 : decode cX3_seat 39 = .ok (.getfield 12, 3) := by decide +kernel
theorem dX3_seat_42 : decode cX3_seat 42 = .ok (.iload_n 1, 1) := by decide +kernel
theorem dX3_seat_43 : decode cX3_seat 43 = .ok (.iload_n 2, 1) := by decide +kernel
theorem dX3_seat_44 : decode cX3_seat 44 = .ok (.invokevirtual 107, 3) := by decide +kernel
theorem dX3_seat_47 : decode cX3_seat 47 = .ok (.istore 4, 2) := by decide +kernel
theorem dX3_seat_49 : decode cX3_seat 49 = .ok (.aload_n 0, 1) := by decide +kernel
theorem dX3_seat_50 : decode cX3_seat 50 = .ok (.getfield 12, 3) := by decide +kernel
theorem dX3_seat_53 : decode cX3_seat 53 = .ok (.iload_n 1, 1) := by decide +kernel
theorem dX3_seat_54 : decode cX3_seat 54 = .ok (.iload_n 2, 1) := by decide +kernel
theorem dX3_seat_55 : decode cX3_seat 55 = .ok (.iload_n 3, 1) := by decide +kernel
theorem dX3_seat_56 : decode cX3_seat 56 = .ok (.invokevirtual 113, 3) := by decide +kernel
theorem dX3_seat_59 : decode cX3_seat 59 = .ok (.iload 4, 2) := by decide +kernel
theorem dX3_seat_61 : decode cX3_seat 61 = .ok (.ireturn, 1) := by decide +kernel
theorem dX3_would_0 : decode cX3_would 0 = .ok (.aload_n 0, 1) := by decide +kernel
theorem dX3_would_1 : decode cX3_would 1 = .ok (.getfield 12, 3) := by decide +kernel
theorem dX3_would_4 : decode cX3_would 4 = .ok (.iload_n 1, 1) := by decide +kernel
theorem dX3_would_5 : decode cX3_would 5 = .ok (.invokevirtual 101, 3) := by decide +kernel
theorem dX3_would_8 : decode cX3_would 8 = .ok (.ifCond .eq 23, 3) := by decide +kernel
theorem dX3_would_11 : decode cX3_would 11 = .ok (.aload_n 0, 1) := by decide +kernel
theorem dX3_would_12 : decode cX3_would 12 = .ok (.getfield 12, 3) := by decide +kernel
theorem dX3_would_15 : decode cX3_would 15 = .ok (.iload_n 2, 1) := by decide +kernel
theorem dX3_would_16 : decode cX3_would 16 = .ok (.invokevirtual 88, 3) := by decide +kernel
theorem dX3_would_19 : decode cX3_would 19 = .ok (.ifCond .eq 12, 3) := by decide +kernel
theorem dX3_would_22 : decode cX3_would 22 = .ok (.iload_n 3, 1) := by decide +kernel
theorem dX3_would_23 : decode cX3_would 23 = .ok (.iconst 0, 1) := by decide +kernel
theorem dX3_would_24 : decode cX3_would 24 = .ok (.iconst 3, 1) := by decide +kernel
theorem dX3_would_25 : decode cX3_would 25 = .ok (.invokestatic 48, 3) := by decide +kernel
theorem dX3_would_28 : decode cX3_would 28 = .ok (.ifCond .ne 10, 3) := by decide +kernel
theorem dX3_would_31 : decode cX3_would 31 = .ok (.aload_n 0, 1) := by decide +kernel
theorem dX3_would_32 : decode cX3_would 32 = .ok (.ldc 52, 2) := by decide +kernel
theorem dX3_would_34 : decode cX3_would 34 = .ok (.invokevirtual 53, 3) := by decide +kernel
theorem dX3_would_37 : decode cX3_would 37 = .ok (.ireturn, 1) := by decide +kernel
theorem dX3_would_38 : decode cX3_would 38 = .ok (.aload_n 0, 1) := by decide +kernel
theorem dX3_would_39 : decode cX3_would 39 = .ok (.getfield 12, 3) := by decide +kernel
theorem dX3_would_42 : decode cX3_would 42 = .ok (.iload_n 1, 1) := by decide +kernel
theorem dX3_would_43 : decode cX3_would 43 = .ok (.iload_n 2, 1) := by decide +kernel
theorem dX3_would_44 : decode cX3_would 44 = .ok (.invokevirtual 116, 3) := by decide +kernel
theorem dX3_would_47 : decode cX3_would 47 = .ok (.istore 4, 2) := by decide +kernel
theorem dX3_would_49 : decode cX3_would 49 = .ok (.iload_n 3, 1) := by decide +kernel
theorem dX3_would_50 : decode cX3_would 50 = .ok (.tableswitch 64 0 2 #[26, 37, 49], 26) := by decide +kernel
theorem dX3_would_76 : decode cX3_would 76 = .ok (.iload 4, 2) := by decide +kernel
theorem dX3_would_78 : decode cX3_would 78 = .ok (.ifCond .eq 7, 3) := by decide +kernel
theorem dX3_would_81 : decode cX3_would 81 = .ok (.iconst 1, 1) := by decide +kernel
theorem dX3_would_82 : decode cX3_would 82 = .ok (.goto 4, 3) := by decide +kernel
theorem dX3_would_85 : decode cX3_would 85 = .ok (.iconst 0, 1) := by decide +kernel
theorem dX3_would_86 : decode cX3_would 86 = .ok (.ireturn, 1) := by decide +kernel
theorem dX3_would_87 : decode cX3_would 87 = .ok (.aload_n 0, 1) := by decide +kernel
theorem dX3_would_88 : decode cX3_would 88 = .ok (.getfield 12, 3) := by decide +kernel
theorem dX3_would_91 : decode cX3_would 91 = .ok (.iload_n 1, 1) := by decide +kernel
theorem dX3_would_92 : decode cX3_would 92 = .ok (.iload_n 2, 1) := by decide +kernel
theorem dX3_would_93 : decode cX3_would 93 = .ok (.iload 4, 2) := by decide +kernel
theorem dX3_would_95 : decode cX3_would 95 = .ok (.invokevirtual 120, 3) := by decide +kernel
theorem dX3_would_98 : decode cX3_would 98 = .ok (.ireturn, 1) := by decide +kernel
theorem dX3_would_99 : decode cX3_would 99 = .ok (.aload_n 0, 1) := by decide +kernel
theorem dX3_would_100 : decode cX3_would 100 = .ok (.getfield 12, 3) := by decide +kernel
theorem dX3_would_103 : decode cX3_would 103 = .ok (.iload_n 2, 1) := by decide +kernel
theorem dX3_would_104 : decode cX3_would 104 = .ok (.iconst 0, 1) := by decide +kernel
theorem dX3_would_105 : decode cX3_would 105 = .ok (.invokevirtual 91, 3) := by decide +kernel
theorem dX3_would_108 : decode cX3_would 108 = .ok (.iload 4, 2) := by decide +kernel
theorem dX3_would_110 : decode cX3_would 110 = .ok (.invokestatic 124, 3) := by decide +kernel
theorem dX3_would_113 : decode cX3_would 113 = .ok (.ireturn, 1) := by decide +kernel
theorem dX3_would_114 : decode cX3_would 114 = .ok (.aload_n 0, 1) := by decide +kernel
theorem dX3_would_115 : decode cX3_would 115 = .ok (.getfield 12, 3) := by decide +kernel
theorem dX3_would_118 : decode cX3_would 118 = .ok (.iload_n 2, 1) := by decide +kernel
theorem dX3_would_119 : decode cX3_would 119 = .ok (.iload 4, 2) := by decide +kernel
theorem dX3_would_121 : decode cX3_would 121 = .ok (.invokevirtual 128, 3) := by decide +kernel
theorem dX3_would_124 : decode cX3_would 124 = .ok (.ireturn, 1) := by decide +kernel
theorem dX3_eat_0 : decode cX3_eat 0 = .ok (.aload_n 0, 1) := by decide +kernel
theorem dX3_eat_1 : decode cX3_eat 1 = .ok (.getfield 12, 3) := by decide +kernel
theorem dX3_eat_4 : decode cX3_eat 4 = .ok (.iload_n 1, 1) := by decide +kernel
theorem dX3_eat_5 : decode cX3_eat 5 = .ok (.invokevirtual 101, 3) := by decide +kernel
theorem dX3_eat_8 : decode cX3_eat 8 = .ok (.ifCond .eq 14, 3) := by decide +kernel
theorem dX3_eat_11 : decode cX3_eat 11 = .ok (.aload_n 0, 1) := by decide +kernel
theorem dX3_eat_12 : decode cX3_eat 12 = .ok (.getfield 12, 3) := by decide +kernel
theorem dX3_eat_15 : decode cX3_eat 15 = .ok (.iload_n 2, 1) := by decide +kernel
theorem dX3_eat_16 : decode cX3_eat 16 = .ok (.invokevirtual 88, 3) := by decide +kernel
theorem dX3_eat_19 : decode cX3_eat 19 = .ok (.ifCond .ne 10, 3) := by decide +kernel
theorem dX3_eat_22 : decode cX3_eat 22 = .ok (.aload_n 0, 1) := by decide +kernel
theorem dX3_eat_23 : decode cX3_eat 23 = .ok (.ldc 52, 2) := by decide +kernel
theorem dX3_eat_25 : decode cX3_eat 25 = .ok (.invokevirtual 53, 3) := by decide +kernel
theorem dX3_eat_28 : decode cX3_eat 28 = .ok (.ireturn, 1) := by decide +kernel
theorem dX3_eat_29 : decode cX3_eat 29 = .ok (.aload_n 0, 1) := by decide +kernel
theorem dX3_eat_30 : decode cX3_eat 30 = .ok (.getfield 12, 3) := by decide +kernel
theorem dX3_eat_33 : decode cX3_eat 33 = .ok (.iload_n 2, 1) := by decide +kernel
theorem dX3_eat_34 : decode cX3_eat 34 = .ok (.invokevirtual 131, 3) := by decide +kernel
theorem dX3_eat_37 : decode cX3_eat 37 = .ok (.ifCond .eq 10, 3) := by decide +kernel
theorem dX3_eat_40 : decode cX3_eat 40 = .ok (.aload_n 0, 1) := by decide +kernel
theorem dX3_eat_41 : decode cX3_eat 41 = .ok (.ldc 134, 2) := by decide +kernel
theorem dX3_eat_43 : decode cX3_eat 43 = .ok (.invokevirtual 53, 3) := by decide +kernel
theorem dX3_eat_46 : decode cX3_eat 46 = .ok (.ireturn, 1) := by decide +kernel
theorem dX3_eat_47 : decode cX3_eat 47 = .ok (.aload_n 0, 1) := by decide +kernel
theorem dX3_eat_48 : decode cX3_eat 48 = .ok (.getfield 12, 3) := by decide +kernel
theorem dX3_eat_51 : decode cX3_eat 51 = .ok (.iload_n 1, 1) := by decide +kernel
theorem dX3_eat_52 : decode cX3_eat 52 = .ok (.iload_n 2, 1) := by decide +kernel
theorem dX3_eat_53 : decode cX3_eat 53 = .ok (.invokevirtual 135, 3) := by decide +kernel
theorem dX3_eat_56 : decode cX3_eat 56 = .ok (.aload_n 0, 1) := by decide +kernel
theorem dX3_eat_57 : decode cX3_eat 57 = .ok (.getfield 12, 3) := by decide +kernel
theorem dX3_eat_60 : decode cX3_eat 60 = .ok (.iload_n 1, 1) := by decide +kernel
theorem dX3_eat_61 : decode cX3_eat 61 = .ok (.iconst 1, 1) := by decide +kernel
theorem dX3_eat_62 : decode cX3_eat 62 = .ok (.invokevirtual 107, 3) := by decide +kernel
theorem dX3_eat_65 : decode cX3_eat 65 = .ok (.ireturn, 1) := by decide +kernel
theorem dX3_go_0 : decode cX3_go 0 = .ok (.iload_n 1, 1) := by decide +kernel
theorem dX3_go_1 : decode cX3_go 1 = .ok (.iconst 1, 1) := by decide +kernel
theorem dX3_go_2 : decode cX3_go 2 = .ok (.bipush 60, 2) := by decide +kernel
theorem dX3_go_4 : decode cX3_go 4 = .ok (.invokestatic 48, 3) := by decide +kernel
theorem dX3_go_7 : decode cX3_go 7 = .ok (.ifCond .ne 10, 3) := by decide +kernel
theorem dX3_go_10 : decode cX3_go 10 = .ok (.aload_n 0, 1) := by decide +kernel
theorem dX3_go_11 : decode cX3_go 11 = .ok (.ldc 52, 2) := by decide +kernel
theorem dX3_go_13 : decode cX3_go 13 = .ok (.invokevirtual 53, 3) := by decide +kernel
theorem dX3_go_16 : decode cX3_go 16 = .ok (.ireturn, 1) := by decide +kernel
theorem dX3_go_17 : decode cX3_go 17 = .ok (.aload_n 0, 1) := by decide +kernel
theorem dX3_go_18 : decode cX3_go 18 = .ok (.getfield 12, 3) := by decide +kernel
theorem dX3_go_21 : decode cX3_go 21 = .ok (.getfield 139, 3) := by decide +kernel
theorem dX3_go_24 : decode cX3_go 24 = .ok (.iload_n 1, 1) := by decide +kernel
theorem dX3_go_25 : decode cX3_go 25 = .ok (.iadd, 1) := by decide +kernel
theorem dX3_go_26 : decode cX3_go 26 = .ok (.ldc 142, 2) := by decide +kernel
theorem dX3_go_28 : decode cX3_go 28 = .ok (.if_icmp .le 10, 3) := by decide +kernel
theorem dX3_go_31 : decode cX3_go 31 = .ok (.aload_n 0, 1) := by decide +kernel
theorem dX3_go_32 : decode cX3_go 32 = .ok (.ldc 134, 2) := by decide +kernel
theorem dX3_go_34 : decode cX3_go 34 = .ok (.invokevirtual 53, 3) := by decide +kernel
theorem dX3_go_37 : decode cX3_go 37 = .ok (.ireturn, 1) := by decide +kernel
theorem dX3_go_38 : decode cX3_go 38 = .ok (.aload_n 0, 1) := by decide +kernel
theorem dX3_go_39 : decode cX3_go 39 = .ok (.getfield 12, 3) := by decide +kernel
theorem dX3_go_42 : decode cX3_go 42 = .ok (.iload_n 1, 1) := by decide +kernel
theorem dX3_go_43 : decode cX3_go 43 = .ok (.invokevirtual 143, 3) := by decide +kernel
theorem dX3_go_46 : decode cX3_go 46 = .ok (.aload_n 0, 1) := by decide +kernel
theorem dX3_go_47 : decode cX3_go 47 = .ok (.getfield 12, 3) := by decide +kernel
theorem dX3_go_50 : decode cX3_go 50 = .ok (.invokevirtual 147, 3) := by decide +kernel
theorem dX3_go_53 : decode cX3_go 53 = .ok (.ireturn, 1) := by decide +kernel
theorem dX3_now_0 : decode cX3_now 0 = .ok (.iload_n 1, 1) := by decide +kernel
theorem dX3_now_1 : decode cX3_now 1 = .ok (.tableswitch 111 0 7 #[47, 55, 63, 71, 79, 87, 95, 103], 47) := by decide +kernel
theorem dX3_now_48 : decode cX3_now 48 = .ok (.aload_n 0, 1) := by decide +kernel
theorem dX3_now_49 : decode cX3_now 49 = .ok (.getfield 12, 3) := by decide +kernel
theorem dX3_now_52 : decode cX3_now 52 = .ok (.getfield 139, 3) := by decide +kernel
theorem dX3_now_55 : decode cX3_now 55 = .ok (.ireturn, 1) := by decide +kernel
theorem dX3_now_56 : decode cX3_now 56 = .ok (.aload_n 0, 1) := by decide +kernel
theorem dX3_now_57 : decode cX3_now 57 = .ok (.getfield 12, 3) := by decide +kernel
theorem dX3_now_60 : decode cX3_now 60 = .ok (.invokevirtual 147, 3) := by decide +kernel
theorem dX3_now_63 : decode cX3_now 63 = .ok (.ireturn, 1) := by decide +kernel
theorem dX3_now_64 : decode cX3_now 64 = .ok (.aload_n 0, 1) := by decide +kernel
theorem dX3_now_65 : decode cX3_now 65 = .ok (.getfield 12, 3) := by decide +kernel
theorem dX3_now_68 : decode cX3_now 68 = .ok (.invokevirtual 151, 3) := by decide +kernel
theorem dX3_now_71 : decode cX3_now 71 = .ok (.ireturn, 1) := by decide +kernel
theorem dX3_now_72 : decode cX3_now 72 = .ok (.aload_n 0, 1) := by decide +kernel
theorem dX3_now_73 : decode cX3_now 73 = .ok (.getfield 12, 3) := by decide +kernel
theorem dX3_now_76 : decode cX3_now 76 = .ok (.invokevirtual 154, 3) := by decide +kernel
theorem dX3_now_79 : decode cX3_now 79 = .ok (.ireturn, 1) := by decide +kernel
theorem dX3_now_80 : decode cX3_now 80 = .ok (.aload_n 0, 1) := by decide +kernel
theorem dX3_now_81 : decode cX3_now 81 = .ok (.getfield 12, 3) := by decide +kernel
theorem dX3_now_84 : decode cX3_now 84 = .ok (.invokevirtual 157, 3) := by decide +kernel
theorem dX3_now_87 : decode cX3_now 87 = .ok (.ireturn, 1) := by decide +kernel
theorem dX3_now_88 : decode cX3_now 88 = .ok (.aload_n 0, 1) := by decide +kernel
theorem dX3_now_89 : decode cX3_now 89 = .ok (.getfield 12, 3) := by decide +kernel
theorem dX3_now_92 : decode cX3_now 92 = .ok (.invokevirtual 160, 3) := by decide +kernel
theorem dX3_now_95 : decode cX3_now 95 = .ok (.ireturn, 1) := by decide +kernel
theorem dX3_now_96 : decode cX3_now 96 = .ok (.aload_n 0, 1) := by decide +kernel
theorem dX3_now_97 : decode cX3_now 97 = .ok (.getfield 12, 3) := by decide +kernel
theorem dX3_now_100 : decode cX3_now 100 = .ok (.invokevirtual 163, 3) := by decide +kernel
theorem dX3_now_103 : decode cX3_now 103 = .ok (.ireturn, 1) := by decide +kernel
theorem dX3_now_104 : decode cX3_now 104 = .ok (.aload_n 0, 1) := by decide +kernel
theorem dX3_now_105 : decode cX3_now 105 = .ok (.getfield 12, 3) := by decide +kernel
theorem dX3_now_108 : decode cX3_now 108 = .ok (.invokevirtual 166, 3) := by decide +kernel
theorem dX3_now_111 : decode cX3_now 111 = .ok (.ireturn, 1) := by decide +kernel
theorem dX3_now_112 : decode cX3_now 112 = .ok (.aload_n 0, 1) := by decide +kernel
theorem dX3_now_113 : decode cX3_now 113 = .ok (.ldc 52, 2) := by decide +kernel
theorem dX3_now_115 : decode cX3_now 115 = .ok (.invokevirtual 53, 3) := by decide +kernel
theorem dX3_now_118 : decode cX3_now 118 = .ok (.ireturn, 1) := by decide +kernel
theorem dX3_ahead_0 : decode cX3_ahead 0 = .ok (.aload_n 0, 1) := by decide +kernel
theorem dX3_ahead_1 : decode cX3_ahead 1 = .ok (.getfield 12, 3) := by decide +kernel
theorem dX3_ahead_4 : decode cX3_ahead 4 = .ok (.iload_n 1, 1) := by decide +kernel
theorem dX3_ahead_5 : decode cX3_ahead 5 = .ok (.invokevirtual 101, 3) := by decide +kernel
theorem dX3_ahead_8 : decode cX3_ahead 8 = .ok (.ifCond .eq 20, 3) := by decide +kernel
theorem dX3_ahead_11 : decode cX3_ahead 11 = .ok (.iload_n 2, 1) := by decide +kernel
theorem dX3_ahead_12 : decode cX3_ahead 12 = .ok (.invokestatic 104, 3) := by decide +kernel
theorem dX3_ahead_15 : decode cX3_ahead 15 = .ok (.ifCond .eq 13, 3) := by decide +kernel
theorem dX3_ahead_18 : decode cX3_ahead 18 = .ok (.iload_n 3, 1) := by decide +kernel
theorem dX3_ahead_19 : decode cX3_ahead 19 = .ok (.iconst 0, 1) := by decide +kernel
theorem dX3_ahead_20 : decode cX3_ahead 20 = .ok (.bipush 100, 2) := by decide +kernel
theorem dX3_ahead_22 : decode cX3_ahead 22 = .ok (.invokestatic 48, 3) := by decide +kernel
theorem dX3_ahead_25 : decode cX3_ahead 25 = .ok (.ifCond .ne 10, 3) := by decide +kernel
theorem dX3_ahead_28 : decode cX3_ahead 28 = .ok (.aload_n 0, 1) := by decide +kernel
theorem dX3_ahead_29 : decode cX3_ahead 29 = .ok (.ldc 52, 2) := by decide +kernel
theorem dX3_ahead_31 : decode cX3_ahead 31 = .ok (.invokevirtual 53, 3) := by decide +kernel
theorem dX3_ahead_34 : decode cX3_ahead 34 = .ok (.ireturn, 1) := by decide +kernel
theorem dX3_ahead_35 : decode cX3_ahead 35 = .ok (.aload_n 0, 1) := by decide +kernel
theorem dX3_ahead_36 : decode cX3_ahead 36 = .ok (.getfield 19, 3) := by decide +kernel
theorem dX3_ahead_39 : decode cX3_ahead 39 = .ok (.aload_n 0, 1) := by decide +kernel
theorem dX3_ahead_40 : decode cX3_ahead 40 = .ok (.getfield 12, 3) := by decide +kernel
theorem dX3_ahead_43 : decode cX3_ahead 43 = .ok (.invokevirtual 169, 3) := by decide +kernel
theorem dX3_ahead_46 : decode cX3_ahead 46 = .ok (.aload_n 0, 1) := by decide +kernel
theorem dX3_ahead_47 : decode cX3_ahead 47 = .ok (.getfield 19, 3) := by decide +kernel
theorem dX3_ahead_50 : decode cX3_ahead 50 = .ok (.iload_n 3, 1) := by decide +kernel
theorem dX3_ahead_51 : decode cX3_ahead 51 = .ok (.invokevirtual 143, 3) := by decide +kernel
theorem dX3_ahead_54 : decode cX3_ahead 54 = .ok (.aload_n 0, 1) := by decide +kernel
theorem dX3_ahead_55 : decode cX3_ahead 55 = .ok (.getfield 19, 3) := by decide +kernel
theorem dX3_ahead_58 : decode cX3_ahead 58 = .ok (.iload_n 1, 1) := by decide +kernel
theorem dX3_ahead_59 : decode cX3_ahead 59 = .ok (.iload_n 2, 1) := by decide +kernel
theorem dX3_ahead_60 : decode cX3_ahead 60 = .ok (.invokevirtual 107, 3) := by decide +kernel
theorem dX3_ahead_63 : decode cX3_ahead 63 = .ok (.ireturn, 1) := by decide +kernel
theorem dX3_served_0 : decode cX3_served 0 = .ok (.aload_n 0, 1) := by decide +kernel
theorem dX3_served_1 : decode cX3_served 1 = .ok (.getfield 12, 3) := by decide +kernel
theorem dX3_served_4 : decode cX3_served 4 = .ok (.iload_n 1, 1) := by decide +kernel
theorem dX3_served_5 : decode cX3_served 5 = .ok (.invokevirtual 88, 3) := by decide +kernel
theorem dX3_served_8 : decode cX3_served 8 = .ok (.ifCond .eq 13, 3) := by decide +kernel
theorem dX3_served_11 : decode cX3_served 11 = .ok (.iload_n 2, 1) := by decide +kernel
theorem dX3_served_12 : decode cX3_served 12 = .ok (.iconst 0, 1) := by decide +kernel
theorem dX3_served_13 : decode cX3_served 13 = .ok (.bipush 100, 2) := by decide +kernel
theorem dX3_served_15 : decode cX3_served 15 = .ok (.invokestatic 48, 3) := by decide +kernel
theorem dX3_served_18 : decode cX3_served 18 = .ok (.ifCond .ne 10, 3) := by decide +kernel
theorem dX3_served_21 : decode cX3_served 21 = .ok (.aload_n 0, 1) := by decide +kernel
theorem dX3_served_22 : decode cX3_served 22 = .ok (.ldc 52, 2) := by decide +kernel
theorem dX3_served_24 : decode cX3_served 24 = .ok (.invokevirtual 53, 3) := by decide +kernel
theorem dX3_served_27 : decode cX3_served 27 = .ok (.ireturn, 1) := by decide +kernel
theorem dX3_served_28 : decode cX3_served 28 = .ok (.aload_n 0, 1) := by decide +kernel
theorem dX3_served_29 : decode cX3_served 29 = .ok (.getfield 19, 3) := by decide +kernel
theorem dX3_served_32 : decode cX3_served 32 = .ok (.aload_n 0, 1) := by decide +kernel
theorem dX3_served_33 : decode cX3_served 33 = .ok (.getfield 12, 3) := by decide +kernel
theorem dX3_served_36 : decode cX3_served 36 = .ok (.invokevirtual 169, 3) := by decide +kernel
theorem dX3_served_39 : decode cX3_served 39 = .ok (.aload_n 0, 1) := by decide +kernel
theorem dX3_served_40 : decode cX3_served 40 = .ok (.getfield 19, 3) := by decide +kernel
theorem dX3_served_43 : decode cX3_served 43 = .ok (.iload_n 2, 1) := by decide +kernel
theorem dX3_served_44 : decode cX3_served 44 = .ok (.invokevirtual 143, 3) := by decide +kernel
theorem dX3_served_47 : decode cX3_served 47 = .ok (.aload_n 0, 1) := by decide +kernel
theorem dX3_served_48 : decode cX3_served 48 = .ok (.getfield 19, 3) := by decide +kernel
theorem dX3_served_51 : decode cX3_served 51 = .ok (.iload_n 1, 1) := by decide +kernel
theorem dX3_served_52 : decode cX3_served 52 = .ok (.iconst 4, 1) := by decide +kernel
theorem dX3_served_53 : decode cX3_served 53 = .ok (.invokevirtual 91, 3) := by decide +kernel
theorem dX3_served_56 : decode cX3_served 56 = .ok (.ireturn, 1) := by decide +kernel
theorem dX3_when_0 : decode cX3_when 0 = .ok (.aload_n 0, 1) := by decide +kernel
theorem dX3_when_1 : decode cX3_when 1 = .ok (.getfield 12, 3) := by decide +kernel
theorem dX3_when_4 : decode cX3_when 4 = .ok (.iload_n 1, 1) := by decide +kernel
theorem dX3_when_5 : decode cX3_when 5 = .ok (.invokevirtual 101, 3) := by decide +kernel
theorem dX3_when_8 : decode cX3_when 8 = .ok (.ifCond .eq 10, 3) := by decide +kernel
theorem dX3_when_11 : decode cX3_when 11 = .ok (.iload_n 2, 1) := by decide +kernel
theorem dX3_when_12 : decode cX3_when 12 = .ok (.invokestatic 67, 3) := by decide +kernel
theorem dX3_when_15 : decode cX3_when 15 = .ok (.ifCond .ne 10, 3) := by decide +kernel
theorem dX3_when_18 : decode cX3_when 18 = .ok (.aload_n 0, 1) := by decide +kernel
theorem dX3_when_19 : decode cX3_when 19 = .ok (.ldc 52, 2) := by decide +kernel
theorem dX3_when_21 : decode cX3_when 21 = .ok (.invokevirtual 53, 3) := by decide +kernel
theorem dX3_when_24 : decode cX3_when 24 = .ok (.ireturn, 1) := by decide +kernel
theorem dX3_when_25 : decode cX3_when 25 = .ok (.aload_n 0, 1) := by decide +kernel
theorem dX3_when_26 : decode cX3_when 26 = .ok (.getfield 19, 3) := by decide +kernel
theorem dX3_when_29 : decode cX3_when 29 = .ok (.aload_n 0, 1) := by decide +kernel
theorem dX3_when_30 : decode cX3_when 30 = .ok (.getfield 12, 3) := by decide +kernel
theorem dX3_when_33 : decode cX3_when 33 = .ok (.invokevirtual 169, 3) := by decide +kernel
theorem dX3_when_36 : decode cX3_when 36 = .ok (.iconst 0, 1) := by decide +kernel
theorem dX3_when_37 : decode cX3_when 37 = .ok (.istore_n 3, 1) := by decide +kernel
theorem dX3_when_38 : decode cX3_when 38 = .ok (.iload_n 3, 1) := by decide +kernel
theorem dX3_when_39 : decode cX3_when 39 = .ok (.sipush 200, 3) := by decide +kernel
theorem dX3_when_42 : decode cX3_when 42 = .ok (.if_icmp .gt 31, 3) := by decide +kernel
theorem dX3_when_45 : decode cX3_when 45 = .ok (.aload_n 0, 1) := by decide +kernel
theorem dX3_when_46 : decode cX3_when 46 = .ok (.getfield 19, 3) := by decide +kernel
theorem dX3_when_49 : decode cX3_when 49 = .ok (.iload_n 1, 1) := by decide +kernel
theorem dX3_when_50 : decode cX3_when 50 = .ok (.iconst 1, 1) := by decide +kernel
theorem dX3_when_51 : decode cX3_when 51 = .ok (.invokevirtual 107, 3) := by decide +kernel
theorem dX3_when_54 : decode cX3_when 54 = .ok (.iload_n 2, 1) := by decide +kernel
theorem dX3_when_55 : decode cX3_when 55 = .ok (.if_icmp .ne 5, 3) := by decide +kernel
theorem dX3_when_58 : decode cX3_when 58 = .ok (.iload_n 3, 1) := by decide +kernel
theorem dX3_when_59 : decode cX3_when 59 = .ok (.ireturn, 1) := by decide +kernel
theorem dX3_when_60 : decode cX3_when 60 = .ok (.aload_n 0, 1) := by decide +kernel
theorem dX3_when_61 : decode cX3_when 61 = .ok (.getfield 19, 3) := by decide +kernel
theorem dX3_when_64 : decode cX3_when 64 = .ok (.invokevirtual 173, 3) := by decide +kernel
theorem dX3_when_67 : decode cX3_when 67 = .ok (.iinc 3 1, 3) := by decide +kernel
theorem dX3_when_70 : decode cX3_when 70 = .ok (.goto (-32), 3) := by decide +kernel
theorem dX3_when_73 : decode cX3_when 73 = .ok (.aload_n 0, 1) := by decide +kernel
theorem dX3_when_74 : decode cX3_when 74 = .ok (.ldc 176, 2) := by decide +kernel
theorem dX3_when_76 : decode cX3_when 76 = .ok (.invokevirtual 53, 3) := by decide +kernel
theorem dX3_when_79 : decode cX3_when 79 = .ok (.ireturn, 1) := by decide +kernel
theorem dX3_owes_0 : decode cX3_owes 0 = .ok (.aload_n 0, 1) := by decide +kernel
theorem dX3_owes_1 : decode cX3_owes 1 = .ok (.getfield 12, 3) := by decide +kernel
theorem dX3_owes_4 : decode cX3_owes 4 = .ok (.iload_n 1, 1) := by decide +kernel
theorem dX3_owes_5 : decode cX3_owes 5 = .ok (.invokevirtual 101, 3) := by decide +kernel
theorem dX3_owes_8 : decode cX3_owes 8 = .ok (.ifCond .eq 13, 3) := by decide +kernel
theorem dX3_owes_11 : decode cX3_owes 11 = .ok (.iload_n 2, 1) := by decide +kernel
theorem dX3_owes_12 : decode cX3_owes 12 = .ok (.iconst 0, 1) := by decide +kernel
theorem dX3_owes_13 : decode cX3_owes 13 = .ok (.ldc 142, 2) := by decide +kernel
theorem dX3_owes_15 : decode cX3_owes 15 = .ok (.invokestatic 48, 3) := by decide +kernel
theorem dX3_owes_18 : decode cX3_owes 18 = .ok (.ifCond .ne 10, 3) := by decide +kernel
theorem dX3_owes_21 : decode cX3_owes 21 = .ok (.aload_n 0, 1) := by decide +kernel
theorem dX3_owes_22 : decode cX3_owes 22 = .ok (.ldc 52, 2) := by decide +kernel
theorem dX3_owes_24 : decode cX3_owes 24 = .ok (.invokevirtual 53, 3) := by decide +kernel
theorem dX3_owes_27 : decode cX3_owes 27 = .ok (.ireturn, 1) := by decide +kernel
theorem dX3_owes_28 : decode cX3_owes 28 = .ok (.aload_n 0, 1) := by decide +kernel
theorem dX3_owes_29 : decode cX3_owes 29 = .ok (.getfield 19, 3) := by decide +kernel
theorem dX3_owes_32 : decode cX3_owes 32 = .ok (.aload_n 0, 1) := by decide +kernel
theorem dX3_owes_33 : decode cX3_owes 33 = .ok (.getfield 12, 3) := by decide +kernel
theorem dX3_owes_36 : decode cX3_owes 36 = .ok (.invokevirtual 169, 3) := by decide +kernel
theorem dX3_owes_39 : decode cX3_owes 39 = .ok (.iconst 0, 1) := by decide +kernel
theorem dX3_owes_40 : decode cX3_owes 40 = .ok (.istore_n 3, 1) := by decide +kernel
theorem dX3_owes_41 : decode cX3_owes 41 = .ok (.iload_n 3, 1) := by decide +kernel
theorem dX3_owes_42 : decode cX3_owes 42 = .ok (.sipush 200, 3) := by decide +kernel
theorem dX3_owes_45 : decode cX3_owes 45 = .ok (.if_icmp .gt 31, 3) := by decide +kernel
theorem dX3_owes_48 : decode cX3_owes 48 = .ok (.aload_n 0, 1) := by decide +kernel
theorem dX3_owes_49 : decode cX3_owes 49 = .ok (.getfield 19, 3) := by decide +kernel
theorem dX3_owes_52 : decode cX3_owes 52 = .ok (.iload_n 1, 1) := by decide +kernel
theorem dX3_owes_53 : decode cX3_owes 53 = .ok (.iconst 2, 1) := by decide +kernel
theorem dX3_owes_54 : decode cX3_owes 54 = .ok (.invokevirtual 107, 3) := by decide +kernel
theorem dX3_owes_57 : decode cX3_owes 57 = .ok (.iload_n 2, 1) := by decide +kernel
theorem dX3_owes_58 : decode cX3_owes 58 = .ok (.if_icmp .lt 5, 3) := by decide +kernel
theorem dX3_owes_61 : decode cX3_owes 61 = .ok (.iload_n 3, 1) := by decide +kernel
theorem dX3_owes_62 : decode cX3_owes 62 = .ok (.ireturn, 1) := by decide +kernel
theorem dX3_owes_63 : decode cX3_owes 63 = .ok (.aload_n 0, 1) := by decide +kernel
theorem dX3_owes_64 : decode cX3_owes 64 = .ok (.getfield 19, 3) := by decide +kernel
theorem dX3_owes_67 : decode cX3_owes 67 = .ok (.invokevirtual 173, 3) := by decide +kernel
theorem dX3_owes_70 : decode cX3_owes 70 = .ok (.iinc 3 1, 3) := by decide +kernel
theorem dX3_owes_73 : decode cX3_owes 73 = .ok (.goto (-32), 3) := by decide +kernel
theorem dX3_owes_76 : decode cX3_owes 76 = .ok (.aload_n 0, 1) := by decide +kernel
theorem dX3_owes_77 : decode cX3_owes 77 = .ok (.ldc 176, 2) := by decide +kernel
theorem dX3_owes_79 : decode cX3_owes 79 = .ok (.invokevirtual 53, 3) := by decide +kernel
theorem dX3_owes_82 : decode cX3_owes 82 = .ok (.ireturn, 1) := by decide +kernel
theorem dX3_part_0 : decode cX3_part 0 = .ok (.aload_n 0, 1) := by decide +kernel
theorem dX3_part_1 : decode cX3_part 1 = .ok (.getfield 12, 3) := by decide +kernel
theorem dX3_part_4 : decode cX3_part 4 = .ok (.iload_n 1, 1) := by decide +kernel
theorem dX3_part_5 : decode cX3_part 5 = .ok (.invokevirtual 101, 3) := by decide +kernel
theorem dX3_part_8 : decode cX3_part 8 = .ok (.ifCond .eq 19, 3) := by decide +kernel
theorem dX3_part_11 : decode cX3_part 11 = .ok (.aload_n 0, 1) := by decide +kernel
theorem dX3_part_12 : decode cX3_part 12 = .ok (.getfield 12, 3) := by decide +kernel
theorem dX3_part_15 : decode cX3_part 15 = .ok (.iload_n 2, 1) := by decide +kernel
theorem dX3_part_16 : decode cX3_part 16 = .ok (.invokevirtual 101, 3) := by decide +kernel
theorem dX3_part_19 : decode cX3_part 19 = .ok (.ifCond .eq 8, 3) := by decide +kernel
theorem dX3_part_22 : decode cX3_part 22 = .ok (.iload_n 1, 1) := by decide +kernel
theorem dX3_part_23 : decode cX3_part 23 = .ok (.iload_n 2, 1) := by decide +kernel
theorem dX3_part_24 : decode cX3_part 24 = .ok (.if_icmp .ne 10, 3) := by decide +kernel
theorem dX3_part_27 : decode cX3_part 27 = .ok (.aload_n 0, 1) := by decide +kernel
theorem dX3_part_28 : decode cX3_part 28 = .ok (.ldc 52, 2) := by decide +kernel
theorem dX3_part_30 : decode cX3_part 30 = .ok (.invokevirtual 53, 3) := by decide +kernel
theorem dX3_part_33 : decode cX3_part 33 = .ok (.ireturn, 1) := by decide +kernel
theorem dX3_part_34 : decode cX3_part 34 = .ok (.aload_n 0, 1) := by decide +kernel
theorem dX3_part_35 : decode cX3_part 35 = .ok (.getfield 19, 3) := by decide +kernel
theorem dX3_part_38 : decode cX3_part 38 = .ok (.aload_n 0, 1) := by decide +kernel
theorem dX3_part_39 : decode cX3_part 39 = .ok (.getfield 12, 3) := by decide +kernel
theorem dX3_part_42 : decode cX3_part 42 = .ok (.invokevirtual 169, 3) := by decide +kernel
theorem dX3_part_45 : decode cX3_part 45 = .ok (.iconst 0, 1) := by decide +kernel
theorem dX3_part_46 : decode cX3_part 46 = .ok (.istore_n 3, 1) := by decide +kernel
theorem dX3_part_47 : decode cX3_part 47 = .ok (.iload_n 3, 1) := by decide +kernel
theorem dX3_part_48 : decode cX3_part 48 = .ok (.sipush 200, 3) := by decide +kernel
theorem dX3_part_51 : decode cX3_part 51 = .ok (.if_icmp .gt 39, 3) := by decide +kernel
theorem dX3_part_54 : decode cX3_part 54 = .ok (.aload_n 0, 1) := by decide +kernel
theorem dX3_part_55 : decode cX3_part 55 = .ok (.getfield 19, 3) := by decide +kernel
theorem dX3_part_58 : decode cX3_part 58 = .ok (.iload_n 1, 1) := by decide +kernel
theorem dX3_part_59 : decode cX3_part 59 = .ok (.iconst 1, 1) := by decide +kernel
theorem dX3_part_60 : decode cX3_part 60 = .ok (.invokevirtual 107, 3) := by decide +kernel
theorem dX3_part_63 : decode cX3_part 63 = .ok (.aload_n 0, 1) := by decide +kernel
theorem dX3_part_64 : decode cX3_part 64 = .ok (.getfield 19, 3) := by decide +kernel
theorem dX3_part_67 : decode cX3_part 67 = .ok (.iload_n 2, 1) := by decide +kernel
theorem dX3_part_68 : decode cX3_part 68 = .ok (.iconst 1, 1) := by decide +kernel
theorem dX3_part_69 : decode cX3_part 69 = .ok (.invokevirtual 107, 3) := by decide +kernel
theorem dX3_part_72 : decode cX3_part 72 = .ok (.if_icmp .eq 5, 3) := by decide +kernel
theorem dX3_part_75 : decode cX3_part 75 = .ok (.iload_n 3, 1) := by decide +kernel
theorem dX3_part_76 : decode cX3_part 76 = .ok (.ireturn, 1) := by decide +kernel
theorem dX3_part_77 : decode cX3_part 77 = .ok (.aload_n 0, 1) := by decide +kernel
theorem dX3_part_78 : decode cX3_part 78 = .ok (.getfield 19, 3) := by decide +kernel
theorem dX3_part_81 : decode cX3_part 81 = .ok (.invokevirtual 173, 3) := by decide +kernel
theorem dX3_part_84 : decode cX3_part 84 = .ok (.iinc 3 1, 3) := by decide +kernel
theorem dX3_part_87 : decode cX3_part 87 = .ok (.goto (-40), 3) := by decide +kernel
theorem dX3_part_90 : decode cX3_part 90 = .ok (.aload_n 0, 1) := by decide +kernel
theorem dX3_part_91 : decode cX3_part 91 = .ok (.ldc 176, 2) := by decide +kernel
theorem dX3_part_93 : decode cX3_part 93 = .ok (.invokevirtual 53, 3) := by decide +kernel
theorem dX3_part_96 : decode cX3_part 96 = .ok (.ireturn, 1) := by decide +kernel
theorem dX3_dishFor_0 : decode cX3_dishFor 0 = .ok (.iload_n 1, 1) := by decide +kernel
theorem dX3_dishFor_1 : decode cX3_dishFor 1 = .ok (.invokestatic 44, 3) := by decide +kernel
theorem dX3_dishFor_4 : decode cX3_dishFor 4 = .ok (.ifCond .eq 13, 3) := by decide +kernel
theorem dX3_dishFor_7 : decode cX3_dishFor 7 = .ok (.iload_n 2, 1) := by decide +kernel
theorem dX3_dishFor_8 : decode cX3_dishFor 8 = .ok (.iconst 0, 1) := by decide +kernel
theorem dX3_dishFor_9 : decode cX3_dishFor 9 = .ok (.bipush 60, 2) := by decide +kernel
theorem dX3_dishFor_11 : decode cX3_dishFor 11 = .ok (.invokestatic 48, 3) := by decide +kernel
theorem dX3_dishFor_14 : decode cX3_dishFor 14 = .ok (.ifCond .ne 10, 3) := by decide +kernel
theorem dX3_dishFor_17 : decode cX3_dishFor 17 = .ok (.aload_n 0, 1) := by decide +kernel
theorem dX3_dishFor_18 : decode cX3_dishFor 18 = .ok (.ldc 52, 2) := by decide +kernel
theorem dX3_dishFor_20 : decode cX3_dishFor 20 = .ok (.invokevirtual 53, 3) := by decide +kernel
theorem dX3_dishFor_23 : decode cX3_dishFor 23 = .ok (.ireturn, 1) := by decide +kernel
theorem dX3_dishFor_24 : decode cX3_dishFor 24 = .ok (.aload_n 0, 1) := by decide +kernel
theorem dX3_dishFor_25 : decode cX3_dishFor 25 = .ok (.getfield 12, 3) := by decide +kernel
theorem dX3_dishFor_28 : decode cX3_dishFor 28 = .ok (.getfield 57, 3) := by decide +kernel
theorem dX3_dishFor_31 : decode cX3_dishFor 31 = .ok (.iload_n 1, 1) := by decide +kernel
theorem dX3_dishFor_32 : decode cX3_dishFor 32 = .ok (.iaload, 1) := by decide +kernel
theorem dX3_dishFor_33 : decode cX3_dishFor 33 = .ok (.invokestatic 177, 3) := by decide +kernel
theorem dX3_dishFor_36 : decode cX3_dishFor 36 = .ok (.istore_n 3, 1) := by decide +kernel
theorem dX3_dishFor_37 : decode cX3_dishFor 37 = .ok (.iconst 0, 1) := by decide +kernel
theorem dX3_dishFor_38 : decode cX3_dishFor 38 = .ok (.istore 4, 2) := by decide +kernel
theorem dX3_dishFor_40 : decode cX3_dishFor 40 = .ok (.ldc 180, 2) := by decide +kernel
theorem dX3_dishFor_42 : decode cX3_dishFor 42 = .ok (.istore 5, 2) := by decide +kernel
theorem dX3_dishFor_44 : decode cX3_dishFor 44 = .ok (.iconst 0, 1) := by decide +kernel
theorem dX3_dishFor_45 : decode cX3_dishFor 45 = .ok (.istore 6, 2) := by decide +kernel
theorem dX3_dishFor_47 : decode cX3_dishFor 47 = .ok (.iload 6, 2) := by decide +kernel
theorem dX3_dishFor_49 : decode cX3_dishFor 49 = .ok (.bipush 8, 2) := by decide +kernel
theorem dX3_dishFor_51 : decode cX3_dishFor 51 = .ok (.if_icmp .ge 63, 3) := by decide +kernel
theorem dX3_dishFor_54 : decode cX3_dishFor 54 = .ok (.aload_n 0, 1) := by decide +kernel
theorem dX3_dishFor_55 : decode cX3_dishFor 55 = .ok (.getfield 19, 3) := by decide +kernel
theorem dX3_dishFor_58 : decode cX3_dishFor 58 = .ok (.aload_n 0, 1) := by decide +kernel
theorem dX3_dishFor_59 : decode cX3_dishFor 59 = .ok (.getfield 12, 3) := by decide +kernel
theorem dX3_dishFor_62 : decode cX3_dishFor 62 = .ok (.invokevirtual 169, 3) := by decide +kernel
theorem dX3_dishFor_65 : decode cX3_dishFor 65 = .ok (.aload_n 0, 1) := by decide +kernel
theorem dX3_dishFor_66 : decode cX3_dishFor 66 = .ok (.getfield 19, 3) := by decide +kernel
theorem dX3_dishFor_69 : decode cX3_dishFor 69 = .ok (.iload_n 1, 1) := by decide +kernel
theorem dX3_dishFor_70 : decode cX3_dishFor 70 = .ok (.iload_n 3, 1) := by decide +kernel
theorem dX3_dishFor_71 : decode cX3_dishFor 71 = .ok (.iload 6, 2) := by decide +kernel
theorem dX3_dishFor_73 : decode cX3_dishFor 73 = .ok (.invokevirtual 60, 3) := by decide +kernel
theorem dX3_dishFor_76 : decode cX3_dishFor 76 = .ok (.aload_n 0, 1) := by decide +kernel
theorem dX3_dishFor_77 : decode cX3_dishFor 77 = .ok (.getfield 19, 3) := by decide +kernel
theorem dX3_dishFor_80 : decode cX3_dishFor 80 = .ok (.iload_n 2, 1) := by decide +kernel
theorem dX3_dishFor_81 : decode cX3_dishFor 81 = .ok (.invokevirtual 143, 3) := by decide +kernel
theorem dX3_dishFor_84 : decode cX3_dishFor 84 = .ok (.aload_n 0, 1) := by decide +kernel
theorem dX3_dishFor_85 : decode cX3_dishFor 85 = .ok (.getfield 19, 3) := by decide +kernel
theorem dX3_dishFor_88 : decode cX3_dishFor 88 = .ok (.invokevirtual 147, 3) := by decide +kernel
theorem dX3_dishFor_91 : decode cX3_dishFor 91 = .ok (.istore 7, 2) := by decide +kernel
theorem dX3_dishFor_93 : decode cX3_dishFor 93 = .ok (.iload 7, 2) := by decide +kernel
theorem dX3_dishFor_95 : decode cX3_dishFor 95 = .ok (.iload 5, 2) := by decide +kernel
theorem dX3_dishFor_97 : decode cX3_dishFor 97 = .ok (.if_icmp .ge 11, 3) := by decide +kernel
theorem dX3_dishFor_100 : decode cX3_dishFor 100 = .ok (.iload 7, 2) := by decide +kernel
theorem dX3_dishFor_102 : decode cX3_dishFor 102 = .ok (.istore 5, 2) := by decide +kernel
theorem dX3_dishFor_104 : decode cX3_dishFor 104 = .ok (.iload 6, 2) := by decide +kernel
theorem dX3_dishFor_106 : decode cX3_dishFor 106 = .ok (.istore 4, 2) := by decide +kernel
theorem dX3_dishFor_108 : decode cX3_dishFor 108 = .ok (.iinc 6 1, 3) := by decide +kernel
theorem dX3_dishFor_111 : decode cX3_dishFor 111 = .ok (.goto (-64), 3) := by decide +kernel
theorem dX3_dishFor_114 : decode cX3_dishFor 114 = .ok (.iload 4, 2) := by decide +kernel
theorem dX3_dishFor_116 : decode cX3_dishFor 116 = .ok (.ireturn, 1) := by decide +kernel
theorem dX3_kindFor_0 : decode cX3_kindFor 0 = .ok (.aload_n 0, 1) := by decide +kernel
theorem dX3_kindFor_1 : decode cX3_kindFor 1 = .ok (.getfield 12, 3) := by decide +kernel
theorem dX3_kindFor_4 : decode cX3_kindFor 4 = .ok (.iload_n 1, 1) := by decide +kernel
theorem dX3_kindFor_5 : decode cX3_kindFor 5 = .ok (.invokevirtual 88, 3) := by decide +kernel
theorem dX3_kindFor_8 : decode cX3_kindFor 8 = .ok (.ifCond .eq 13, 3) := by decide +kernel
theorem dX3_kindFor_11 : decode cX3_kindFor 11 = .ok (.iload_n 2, 1) := by decide +kernel
theorem dX3_kindFor_12 : decode cX3_kindFor 12 = .ok (.iconst 0, 1) := by decide +kernel
theorem dX3_kindFor_13 : decode cX3_kindFor 13 = .ok (.bipush 60, 2) := by decide +kernel
theorem dX3_kindFor_15 : decode cX3_kindFor 15 = .ok (.invokestatic 48, 3) := by decide +kernel
theorem dX3_kindFor_18 : decode cX3_kindFor 18 = .ok (.ifCond .ne 10, 3) := by decide +kernel
theorem dX3_kindFor_21 : decode cX3_kindFor 21 = .ok (.aload_n 0, 1) := by decide +kernel
theorem dX3_kindFor_22 : decode cX3_kindFor 22 = .ok (.ldc 52, 2) := by decide +kernel
theorem dX3_kindFor_24 : decode cX3_kindFor 24 = .ok (.invokevirtual 53, 3) := by decide +kernel
theorem dX3_kindFor_27 : decode cX3_kindFor 27 = .ok (.ireturn, 1) := by decide +kernel
theorem dX3_kindFor_28 : decode cX3_kindFor 28 = .ok (.iconst 0, 1) := by decide +kernel
theorem dX3_kindFor_29 : decode cX3_kindFor 29 = .ok (.istore_n 3, 1) := by decide +kernel
theorem dX3_kindFor_30 : decode cX3_kindFor 30 = .ok (.ldc 180, 2) := by decide +kernel
theorem dX3_kindFor_32 : decode cX3_kindFor 32 = .ok (.istore 4, 2) := by decide +kernel
theorem dX3_kindFor_34 : decode cX3_kindFor 34 = .ok (.iconst 0, 1) := by decide +kernel
theorem dX3_kindFor_35 : decode cX3_kindFor 35 = .ok (.istore 5, 2) := by decide +kernel
theorem dX3_kindFor_37 : decode cX3_kindFor 37 = .ok (.iload 5, 2) := by decide +kernel
theorem dX3_kindFor_39 : decode cX3_kindFor 39 = .ok (.bipush 7, 2) := by decide +kernel
theorem dX3_kindFor_41 : decode cX3_kindFor 41 = .ok (.if_icmp .ge 62, 3) := by decide +kernel
theorem dX3_kindFor_44 : decode cX3_kindFor 44 = .ok (.aload_n 0, 1) := by decide +kernel
theorem dX3_kindFor_45 : decode cX3_kindFor 45 = .ok (.getfield 19, 3) := by decide +kernel
theorem dX3_kindFor_48 : decode cX3_kindFor 48 = .ok (.aload_n 0, 1) := by decide +kernel
theorem dX3_kindFor_49 : decode cX3_kindFor 49 = .ok (.getfield 12, 3) := by decide +kernel
theorem dX3_kindFor_52 : decode cX3_kindFor 52 = .ok (.invokevirtual 169, 3) := by decide +kernel
theorem dX3_kindFor_55 : decode cX3_kindFor 55 = .ok (.aload_n 0, 1) := by decide +kernel
theorem dX3_kindFor_56 : decode cX3_kindFor 56 = .ok (.getfield 19, 3) := by decide +kernel
theorem dX3_kindFor_59 : decode cX3_kindFor 59 = .ok (.iload_n 1, 1) := by decide +kernel
theorem dX3_kindFor_60 : decode cX3_kindFor 60 = .ok (.iconst 0, 1) := by decide +kernel
theorem dX3_kindFor_61 : decode cX3_kindFor 61 = .ok (.iload 5, 2) := by decide +kernel
theorem dX3_kindFor_63 : decode cX3_kindFor 63 = .ok (.invokevirtual 98, 3) := by decide +kernel
theorem dX3_kindFor_66 : decode cX3_kindFor 66 = .ok (.aload_n 0, 1) := by decide +kernel
theorem dX3_kindFor_67 : decode cX3_kindFor 67 = .ok (.getfield 19, 3) := by decide +kernel
theorem dX3_kindFor_70 : decode cX3_kindFor 70 = .ok (.iload_n 2, 1) := by decide +kernel
theorem dX3_kindFor_71 : decode cX3_kindFor 71 = .ok (.invokevirtual 143, 3) := by decide +kernel
theorem dX3_kindFor_74 : decode cX3_kindFor 74 = .ok (.aload_n 0, 1) := by decide +kernel
theorem dX3_kindFor_75 : decode cX3_kindFor 75 = .ok (.getfield 19, 3) := by decide +kernel
theorem dX3_kindFor_78 : decode cX3_kindFor 78 = .ok (.invokevirtual 147, 3) := by decide +kernel
theorem dX3_kindFor_81 : decode cX3_kindFor 81 = .ok (.istore 6, 2) := by decide +kernel
theorem dX3_kindFor_83 : decode cX3_kindFor 83 = .ok (.iload 6, 2) := by decide +kernel
theorem dX3_kindFor_85 : decode cX3_kindFor 85 = .ok (.iload 4, 2) := by decide +kernel
theorem dX3_kindFor_87 : decode cX3_kindFor 87 = .ok (.if_icmp .ge 10, 3) := by decide +kernel
theorem dX3_kindFor_90 : decode cX3_kindFor 90 = .ok (.iload 6, 2) := by decide +kernel
theorem dX3_kindFor_92 : decode cX3_kindFor 92 = .ok (.istore 4, 2) := by decide +kernel
theorem dX3_kindFor_94 : decode cX3_kindFor 94 = .ok (.iload 5, 2) := by decide +kernel
theorem dX3_kindFor_96 : decode cX3_kindFor 96 = .ok (.istore_n 3, 1) := by decide +kernel
theorem dX3_kindFor_97 : decode cX3_kindFor 97 = .ok (.iinc 5 1, 3) := by decide +kernel
theorem dX3_kindFor_100 : decode cX3_kindFor 100 = .ok (.goto (-63), 3) := by decide +kernel
theorem dX3_kindFor_103 : decode cX3_kindFor 103 = .ok (.iload_n 3, 1) := by decide +kernel
theorem dX3_kindFor_104 : decode cX3_kindFor 104 = .ok (.ireturn, 1) := by decide +kernel
theorem dX3_bentFor_0 : decode cX3_bentFor 0 = .ok (.aload_n 0, 1) := by decide +kernel
theorem dX3_bentFor_1 : decode cX3_bentFor 1 = .ok (.getfield 12, 3) := by decide +kernel
theorem dX3_bentFor_4 : decode cX3_bentFor 4 = .ok (.iload_n 1, 1) := by decide +kernel
theorem dX3_bentFor_5 : decode cX3_bentFor 5 = .ok (.invokevirtual 101, 3) := by decide +kernel
theorem dX3_bentFor_8 : decode cX3_bentFor 8 = .ok (.ifCond .eq 20, 3) := by decide +kernel
theorem dX3_bentFor_11 : decode cX3_bentFor 11 = .ok (.iload_n 2, 1) := by decide +kernel
theorem dX3_bentFor_12 : decode cX3_bentFor 12 = .ok (.invokestatic 67, 3) := by decide +kernel
theorem dX3_bentFor_15 : decode cX3_bentFor 15 = .ok (.ifCond .eq 13, 3) := by decide +kernel
theorem dX3_bentFor_18 : decode cX3_bentFor 18 = .ok (.iload_n 3, 1) := by decide +kernel
theorem dX3_bentFor_19 : decode cX3_bentFor 19 = .ok (.iconst 0, 1) := by decide +kernel
theorem dX3_bentFor_20 : decode cX3_bentFor 20 = .ok (.bipush 60, 2) := by decide +kernel
theorem dX3_bentFor_22 : decode cX3_bentFor 22 = .ok (.invokestatic 48, 3) := by decide +kernel
theorem dX3_bentFor_25 : decode cX3_bentFor 25 = .ok (.ifCond .ne 10, 3) := by decide +kernel
theorem dX3_bentFor_28 : decode cX3_bentFor 28 = .ok (.aload_n 0, 1) := by decide +kernel
theorem dX3_bentFor_29 : decode cX3_bentFor 29 = .ok (.ldc 52, 2) := by decide +kernel
theorem dX3_bentFor_31 : decode cX3_bentFor 31 = .ok (.invokevirtual 53, 3) := by decide +kernel
theorem dX3_bentFor_34 : decode cX3_bentFor 34 = .ok (.ireturn, 1) := by decide +kernel
theorem dX3_bentFor_35 : decode cX3_bentFor 35 = .ok (.iconst 0, 1) := by decide +kernel
theorem dX3_bentFor_36 : decode cX3_bentFor 36 = .ok (.istore 4, 2) := by decide +kernel
theorem dX3_bentFor_38 : decode cX3_bentFor 38 = .ok (.iload 4, 2) := by decide +kernel
theorem dX3_bentFor_40 : decode cX3_bentFor 40 = .ok (.bipush 100, 2) := by decide +kernel
theorem dX3_bentFor_42 : decode cX3_bentFor 42 = .ok (.if_icmp .ge 55, 3) := by decide +kernel
theorem dX3_bentFor_45 : decode cX3_bentFor 45 = .ok (.aload_n 0, 1) := by decide +kernel
theorem dX3_bentFor_46 : decode cX3_bentFor 46 = .ok (.getfield 19, 3) := by decide +kernel
theorem dX3_bentFor_49 : decode cX3_bentFor 49 = .ok (.aload_n 0, 1) := by decide +kernel
theorem dX3_bentFor_50 : decode cX3_bentFor 50 = .ok (.getfield 12, 3) := by decide +kernel
theorem dX3_bentFor_53 : decode cX3_bentFor 53 = .ok (.invokevirtual 169, 3) := by decide +kernel
theorem dX3_bentFor_56 : decode cX3_bentFor 56 = .ok (.aload_n 0, 1) := by decide +kernel
theorem dX3_bentFor_57 : decode cX3_bentFor 57 = .ok (.getfield 19, 3) := by decide +kernel
theorem dX3_bentFor_60 : decode cX3_bentFor 60 = .ok (.iload_n 1, 1) := by decide +kernel
theorem dX3_bentFor_61 : decode cX3_bentFor 61 = .ok (.iconst 0, 1) := by decide +kernel
theorem dX3_bentFor_62 : decode cX3_bentFor 62 = .ok (.iload 4, 2) := by decide +kernel
theorem dX3_bentFor_64 : decode cX3_bentFor 64 = .ok (.invokevirtual 113, 3) := by decide +kernel
theorem dX3_bentFor_67 : decode cX3_bentFor 67 = .ok (.aload_n 0, 1) := by decide +kernel
theorem dX3_bentFor_68 : decode cX3_bentFor 68 = .ok (.getfield 19, 3) := by decide +kernel
theorem dX3_bentFor_71 : decode cX3_bentFor 71 = .ok (.iload_n 3, 1) := by decide +kernel
theorem dX3_bentFor_72 : decode cX3_bentFor 72 = .ok (.invokevirtual 143, 3) := by decide +kernel
theorem dX3_bentFor_75 : decode cX3_bentFor 75 = .ok (.aload_n 0, 1) := by decide +kernel
theorem dX3_bentFor_76 : decode cX3_bentFor 76 = .ok (.getfield 19, 3) := by decide +kernel
theorem dX3_bentFor_79 : decode cX3_bentFor 79 = .ok (.iload_n 1, 1) := by decide +kernel
theorem dX3_bentFor_80 : decode cX3_bentFor 80 = .ok (.iconst 1, 1) := by decide +kernel
theorem dX3_bentFor_81 : decode cX3_bentFor 81 = .ok (.invokevirtual 107, 3) := by decide +kernel
theorem dX3_bentFor_84 : decode cX3_bentFor 84 = .ok (.iload_n 2, 1) := by decide +kernel
theorem dX3_bentFor_85 : decode cX3_bentFor 85 = .ok (.if_icmp .ne 6, 3) := by decide +kernel
theorem dX3_bentFor_88 : decode cX3_bentFor 88 = .ok (.iload 4, 2) := by decide +kernel
theorem dX3_bentFor_90 : decode cX3_bentFor 90 = .ok (.ireturn, 1) := by decide +kernel
theorem dX3_bentFor_91 : decode cX3_bentFor 91 = .ok (.iinc 4 1, 3) := by decide +kernel
theorem dX3_bentFor_94 : decode cX3_bentFor 94 = .ok (.goto (-56), 3) := by decide +kernel
theorem dX3_bentFor_97 : decode cX3_bentFor 97 = .ok (.aload_n 0, 1) := by decide +kernel
theorem dX3_bentFor_98 : decode cX3_bentFor 98 = .ok (.ldc 176, 2) := by decide +kernel
theorem dX3_bentFor_100 : decode cX3_bentFor 100 = .ok (.invokevirtual 53, 3) := by decide +kernel
theorem dX3_bentFor_103 : decode cX3_bentFor 103 = .ok (.ireturn, 1) := by decide +kernel
theorem dX3_courses_0 : decode cX3_courses 0 = .ok (.aload_n 0, 1) := by decide +kernel
theorem dX3_courses_1 : decode cX3_courses 1 = .ok (.getfield 12, 3) := by decide +kernel
theorem dX3_courses_4 : decode cX3_courses 4 = .ok (.iload_n 1, 1) := by decide +kernel
theorem dX3_courses_5 : decode cX3_courses 5 = .ok (.invokevirtual 101, 3) := by decide +kernel
theorem dX3_courses_8 : decode cX3_courses 8 = .ok (.ifCond .eq 10, 3) := by decide +kernel
theorem dX3_courses_11 : decode cX3_courses 11 = .ok (.iload_n 2, 1) := by decide +kernel
theorem dX3_courses_12 : decode cX3_courses 12 = .ok (.invokestatic 67, 3) := by decide +kernel
theorem dX3_courses_15 : decode cX3_courses 15 = .ok (.ifCond .ne 10, 3) := by decide +kernel
theorem dX3_courses_18 : decode cX3_courses 18 = .ok (.aload_n 0, 1) := by decide +kernel
theorem dX3_courses_19 : decode cX3_courses 19 = .ok (.ldc 52, 2) := by decide +kernel
theorem dX3_courses_21 : decode cX3_courses 21 = .ok (.invokevirtual 53, 3) := by decide +kernel
theorem dX3_courses_24 : decode cX3_courses 24 = .ok (.ireturn, 1) := by decide +kernel
theorem dX3_courses_25 : decode cX3_courses 25 = .ok (.aload_n 0, 1) := by decide +kernel
theorem dX3_courses_26 : decode cX3_courses 26 = .ok (.getfield 12, 3) := by decide +kernel
theorem dX3_courses_29 : decode cX3_courses 29 = .ok (.iload_n 1, 1) := by decide +kernel
theorem dX3_courses_30 : decode cX3_courses 30 = .ok (.iconst 1, 1) := by decide +kernel
theorem dX3_courses_31 : decode cX3_courses 31 = .ok (.invokevirtual 107, 3) := by decide +kernel
theorem dX3_courses_34 : decode cX3_courses 34 = .ok (.iload_n 2, 1) := by decide +kernel
theorem dX3_courses_35 : decode cX3_courses 35 = .ok (.if_icmp .ne 5, 3) := by decide +kernel
theorem dX3_courses_38 : decode cX3_courses 38 = .ok (.iconst 0, 1) := by decide +kernel
theorem dX3_courses_39 : decode cX3_courses 39 = .ok (.ireturn, 1) := by decide +kernel
theorem dX3_courses_40 : decode cX3_courses 40 = .ok (.aload_n 0, 1) := by decide +kernel
theorem dX3_courses_41 : decode cX3_courses 41 = .ok (.getfield 19, 3) := by decide +kernel
theorem dX3_courses_44 : decode cX3_courses 44 = .ok (.aload_n 0, 1) := by decide +kernel
theorem dX3_courses_45 : decode cX3_courses 45 = .ok (.getfield 12, 3) := by decide +kernel
theorem dX3_courses_48 : decode cX3_courses 48 = .ok (.invokevirtual 169, 3) := by decide +kernel
theorem dX3_courses_51 : decode cX3_courses 51 = .ok (.iconst 1, 1) := by decide +kernel
theorem dX3_courses_52 : decode cX3_courses 52 = .ok (.istore_n 3, 1) := by decide +kernel
theorem dX3_courses_53 : decode cX3_courses 53 = .ok (.iload_n 3, 1) := by decide +kernel
theorem dX3_courses_54 : decode cX3_courses 54 = .ok (.iconst 4, 1) := by decide +kernel
theorem dX3_courses_55 : decode cX3_courses 55 = .ok (.if_icmp .gt 21, 3) := by decide +kernel
theorem dX3_courses_58 : decode cX3_courses 58 = .ok (.aload_n 0, 1) := by decide +kernel
theorem dX3_courses_59 : decode cX3_courses 59 = .ok (.iload_n 1, 1) := by decide +kernel
theorem dX3_courses_60 : decode cX3_courses 60 = .ok (.iload_n 2, 1) := by decide +kernel
theorem dX3_courses_61 : decode cX3_courses 61 = .ok (.iload_n 3, 1) := by decide +kernel
theorem dX3_courses_62 : decode cX3_courses 62 = .ok (.invokevirtual 181, 3) := by decide +kernel
theorem dX3_courses_65 : decode cX3_courses 65 = .ok (.ifCond .eq 5, 3) := by decide +kernel
theorem dX3_courses_68 : decode cX3_courses 68 = .ok (.iload_n 3, 1) := by decide +kernel
theorem dX3_courses_69 : decode cX3_courses 69 = .ok (.ireturn, 1) := by decide +kernel
theorem dX3_courses_70 : decode cX3_courses 70 = .ok (.iinc 3 1, 3) := by decide +kernel
theorem dX3_courses_73 : decode cX3_courses 73 = .ok (.goto (-20), 3) := by decide +kernel
theorem dX3_courses_76 : decode cX3_courses 76 = .ok (.aload_n 0, 1) := by decide +kernel
theorem dX3_courses_77 : decode cX3_courses 77 = .ok (.ldc 176, 2) := by decide +kernel
theorem dX3_courses_79 : decode cX3_courses 79 = .ok (.invokevirtual 53, 3) := by decide +kernel
theorem dX3_courses_82 : decode cX3_courses 82 = .ok (.ireturn, 1) := by decide +kernel
theorem dX3_strike_0 : decode cX3_strike 0 = .ok (.aload_n 0, 1) := by decide +kernel
theorem dX3_strike_1 : decode cX3_strike 1 = .ok (.getfield 12, 3) := by decide +kernel
theorem dX3_strike_4 : decode cX3_strike 4 = .ok (.iload_n 1, 1) := by decide +kernel
theorem dX3_strike_5 : decode cX3_strike 5 = .ok (.invokevirtual 101, 3) := by decide +kernel
theorem dX3_strike_8 : decode cX3_strike 8 = .ok (.ifCond .eq 20, 3) := by decide +kernel
theorem dX3_strike_11 : decode cX3_strike 11 = .ok (.iload_n 2, 1) := by decide +kernel
theorem dX3_strike_12 : decode cX3_strike 12 = .ok (.invokestatic 67, 3) := by decide +kernel
theorem dX3_strike_15 : decode cX3_strike 15 = .ok (.ifCond .eq 13, 3) := by decide +kernel
theorem dX3_strike_18 : decode cX3_strike 18 = .ok (.iload_n 3, 1) := by decide +kernel
theorem dX3_strike_19 : decode cX3_strike 19 = .ok (.iconst 0, 1) := by decide +kernel
theorem dX3_strike_20 : decode cX3_strike 20 = .ok (.bipush 20, 2) := by decide +kernel
theorem dX3_strike_22 : decode cX3_strike 22 = .ok (.invokestatic 48, 3) := by decide +kernel
theorem dX3_strike_25 : decode cX3_strike 25 = .ok (.ifCond .ne 10, 3) := by decide +kernel
theorem dX3_strike_28 : decode cX3_strike 28 = .ok (.aload_n 0, 1) := by decide +kernel
theorem dX3_strike_29 : decode cX3_strike 29 = .ok (.ldc 52, 2) := by decide +kernel
theorem dX3_strike_31 : decode cX3_strike 31 = .ok (.invokevirtual 53, 3) := by decide +kernel
theorem dX3_strike_34 : decode cX3_strike 34 = .ok (.ireturn, 1) := by decide +kernel
theorem dX3_strike_35 : decode cX3_strike 35 = .ok (.iconst 1, 1) := by decide +kernel
theorem dX3_strike_36 : decode cX3_strike 36 = .ok (.aload_n 0, 1) := by decide +kernel
theorem dX3_strike_37 : decode cX3_strike 37 = .ok (.getfield 12, 3) := by decide +kernel
theorem dX3_strike_40 : decode cX3_strike 40 = .ok (.getfield 70, 3) := by decide +kernel
theorem dX3_strike_43 : decode cX3_strike 43 = .ok (.ishl, 1) := by decide +kernel
theorem dX3_strike_44 : decode cX3_strike 44 = .ok (.istore 4, 2) := by decide +kernel
theorem dX3_strike_46 : decode cX3_strike 46 = .ok (.iconst 0, 1) := by decide +kernel
theorem dX3_strike_47 : decode cX3_strike 47 = .ok (.istore 5, 2) := by decide +kernel
theorem dX3_strike_49 : decode cX3_strike 49 = .ok (.iload 5, 2) := by decide +kernel
theorem dX3_strike_51 : decode cX3_strike 51 = .ok (.aload_n 0, 1) := by decide +kernel
theorem dX3_strike_52 : decode cX3_strike 52 = .ok (.getfield 12, 3) := by decide +kernel
theorem dX3_strike_55 : decode cX3_strike 55 = .ok (.getfield 70, 3) := by decide +kernel
theorem dX3_strike_58 : decode cX3_strike 58 = .ok (.if_icmp .gt 50, 3) := by decide +kernel
theorem dX3_strike_61 : decode cX3_strike 61 = .ok (.iconst 0, 1) := by decide +kernel
theorem dX3_strike_62 : decode cX3_strike 62 = .ok (.istore 6, 2) := by decide +kernel
theorem dX3_strike_64 : decode cX3_strike 64 = .ok (.iload 6, 2) := by decide +kernel
theorem dX3_strike_66 : decode cX3_strike 66 = .ok (.iload 4, 2) := by decide +kernel
theorem dX3_strike_68 : decode cX3_strike 68 = .ok (.if_icmp .ge 34, 3) := by decide +kernel
theorem dX3_strike_71 : decode cX3_strike 71 = .ok (.iload 6, 2) := by decide +kernel
theorem dX3_strike_73 : decode cX3_strike 73 = .ok (.invokestatic 184, 3) := by decide +kernel
theorem dX3_strike_76 : decode cX3_strike 76 = .ok (.iload 5, 2) := by decide +kernel
theorem dX3_strike_78 : decode cX3_strike 78 = .ok (.if_icmp .ne 18, 3) := by decide +kernel
theorem dX3_strike_81 : decode cX3_strike 81 = .ok (.aload_n 0, 1) := by decide +kernel
theorem dX3_strike_82 : decode cX3_strike 82 = .ok (.iload 6, 2) := by decide +kernel
theorem dX3_strike_84 : decode cX3_strike 84 = .ok (.iload_n 1, 1) := by decide +kernel
theorem dX3_strike_85 : decode cX3_strike 85 = .ok (.iload_n 2, 1) := by decide +kernel
theorem dX3_strike_86 : decode cX3_strike 86 = .ok (.iload_n 3, 1) := by decide +kernel
theorem dX3_strike_87 : decode cX3_strike 87 = .ok (.invokevirtual 189, 3) := by decide +kernel
theorem dX3_strike_90 : decode cX3_strike 90 = .ok (.ifCond .eq 6, 3) := by decide +kernel
theorem dX3_strike_93 : decode cX3_strike 93 = .ok (.iload 6, 2) := by decide +kernel
theorem dX3_strike_95 : decode cX3_strike 95 = .ok (.ireturn, 1) := by decide +kernel
theorem dX3_strike_96 : decode cX3_strike 96 = .ok (.iinc 6 1, 3) := by decide +kernel
theorem dX3_strike_99 : decode cX3_strike 99 = .ok (.goto (-35), 3) := by decide +kernel
theorem dX3_strike_102 : decode cX3_strike 102 = .ok (.iinc 5 1, 3) := by decide +kernel
theorem dX3_strike_105 : decode cX3_strike 105 = .ok (.goto (-56), 3) := by decide +kernel
theorem dX3_strike_108 : decode cX3_strike 108 = .ok (.aload_n 0, 1) := by decide +kernel
theorem dX3_strike_109 : decode cX3_strike 109 = .ok (.ldc 176, 2) := by decide +kernel
theorem dX3_strike_111 : decode cX3_strike 111 = .ok (.invokevirtual 53, 3) := by decide +kernel
theorem dX3_strike_114 : decode cX3_strike 114 = .ok (.ireturn, 1) := by decide +kernel
theorem dX3_fits_0 : decode cX3_fits 0 = .ok (.aload_n 0, 1) := by decide +kernel
theorem dX3_fits_1 : decode cX3_fits 1 = .ok (.iload_n 1, 1) := by decide +kernel
theorem dX3_fits_2 : decode cX3_fits 2 = .ok (.invokevirtual 193, 3) := by decide +kernel
theorem dX3_fits_5 : decode cX3_fits 5 = .ok (.istore_n 3, 1) := by decide +kernel
theorem dX3_fits_6 : decode cX3_fits 6 = .ok (.iload_n 3, 1) := by decide +kernel
theorem dX3_fits_7 : decode cX3_fits 7 = .ok (.ifCond .eq 9, 3) := by decide +kernel
theorem dX3_fits_10 : decode cX3_fits 10 = .ok (.aload_n 0, 1) := by decide +kernel
theorem dX3_fits_11 : decode cX3_fits 11 = .ok (.iload_n 3, 1) := by decide +kernel
theorem dX3_fits_12 : decode cX3_fits 12 = .ok (.invokevirtual 53, 3) := by decide +kernel
theorem dX3_fits_15 : decode cX3_fits 15 = .ok (.ireturn, 1) := by decide +kernel
theorem dX3_fits_16 : decode cX3_fits 16 = .ok (.aload_n 0, 1) := by decide +kernel
theorem dX3_fits_17 : decode cX3_fits 17 = .ok (.getfield 12, 3) := by decide +kernel
theorem dX3_fits_20 : decode cX3_fits 20 = .ok (.iload_n 2, 1) := by decide +kernel
theorem dX3_fits_21 : decode cX3_fits 21 = .ok (.invokevirtual 101, 3) := by decide +kernel
theorem dX3_fits_24 : decode cX3_fits 24 = .ok (.ifCond .ne 10, 3) := by decide +kernel
theorem dX3_fits_27 : decode cX3_fits 27 = .ok (.aload_n 0, 1) := by decide +kernel
theorem dX3_fits_28 : decode cX3_fits 28 = .ok (.ldc 52, 2) := by decide +kernel
theorem dX3_fits_30 : decode cX3_fits 30 = .ok (.invokevirtual 53, 3) := by decide +kernel
theorem dX3_fits_33 : decode cX3_fits 33 = .ok (.ireturn, 1) := by decide +kernel
theorem dX3_fits_34 : decode cX3_fits 34 = .ok (.iconst 0, 1) := by decide +kernel
theorem dX3_fits_35 : decode cX3_fits 35 = .ok (.istore 4, 2) := by decide +kernel
theorem dX3_fits_37 : decode cX3_fits 37 = .ok (.iconst 0, 1) := by decide +kernel
theorem dX3_fits_38 : decode cX3_fits 38 = .ok (.istore 5, 2) := by decide +kernel
theorem dX3_fits_40 : decode cX3_fits 40 = .ok (.iload 5, 2) := by decide +kernel
theorem dX3_fits_42 : decode cX3_fits 42 = .ok (.bipush 100, 2) := by decide +kernel
theorem dX3_fits_44 : decode cX3_fits 44 = .ok (.if_icmp .ge 48, 3) := by decide +kernel
theorem dX3_fits_47 : decode cX3_fits 47 = .ok (.aload_n 0, 1) := by decide +kernel
theorem dX3_fits_48 : decode cX3_fits 48 = .ok (.getfield 19, 3) := by decide +kernel
theorem dX3_fits_51 : decode cX3_fits 51 = .ok (.aload_n 0, 1) := by decide +kernel
theorem dX3_fits_52 : decode cX3_fits 52 = .ok (.getfield 12, 3) := by decide +kernel
theorem dX3_fits_55 : decode cX3_fits 55 = .ok (.invokevirtual 169, 3) := by decide +kernel
theorem dX3_fits_58 : decode cX3_fits 58 = .ok (.aload_n 0, 1) := by decide +kernel
theorem dX3_fits_59 : decode cX3_fits 59 = .ok (.getfield 19, 3) := by decide +kernel
theorem dX3_fits_62 : decode cX3_fits 62 = .ok (.iload_n 2, 1) := by decide +kernel
theorem dX3_fits_63 : decode cX3_fits 63 = .ok (.iconst 0, 1) := by decide +kernel
theorem dX3_fits_64 : decode cX3_fits 64 = .ok (.iload 5, 2) := by decide +kernel
theorem dX3_fits_66 : decode cX3_fits 66 = .ok (.invokevirtual 113, 3) := by decide +kernel
theorem dX3_fits_69 : decode cX3_fits 69 = .ok (.aload_n 0, 1) := by decide +kernel
theorem dX3_fits_70 : decode cX3_fits 70 = .ok (.aload_n 0, 1) := by decide +kernel
theorem dX3_fits_71 : decode cX3_fits 71 = .ok (.getfield 31, 3) := by decide +kernel
theorem dX3_fits_74 : decode cX3_fits 74 = .ok (.iload_n 1, 1) := by decide +kernel
theorem dX3_fits_75 : decode cX3_fits 75 = .ok (.aaload, 1) := by decide +kernel
theorem dX3_fits_76 : decode cX3_fits 76 = .ok (.iload_n 2, 1) := by decide +kernel
theorem dX3_fits_77 : decode cX3_fits 77 = .ok (.invokevirtual 196, 3) := by decide +kernel
theorem dX3_fits_80 : decode cX3_fits 80 = .ok (.ifCond .eq 6, 3) := by decide +kernel
theorem dX3_fits_83 : decode cX3_fits 83 = .ok (.iinc 4 1, 3) := by decide +kernel
theorem dX3_fits_86 : decode cX3_fits 86 = .ok (.iinc 5 1, 3) := by decide +kernel
theorem dX3_fits_89 : decode cX3_fits 89 = .ok (.goto (-49), 3) := by decide +kernel
theorem dX3_fits_92 : decode cX3_fits 92 = .ok (.iload 4, 2) := by decide +kernel
theorem dX3_fits_94 : decode cX3_fits 94 = .ok (.ireturn, 1) := by decide +kernel
theorem dX3_kinds_0 : decode cX3_kinds 0 = .ok (.aload_n 0, 1) := by decide +kernel
theorem dX3_kinds_1 : decode cX3_kinds 1 = .ok (.iload_n 1, 1) := by decide +kernel
theorem dX3_kinds_2 : decode cX3_kinds 2 = .ok (.invokevirtual 193, 3) := by decide +kernel
theorem dX3_kinds_5 : decode cX3_kinds 5 = .ok (.istore 4, 2) := by decide +kernel
theorem dX3_kinds_7 : decode cX3_kinds 7 = .ok (.iload 4, 2) := by decide +kernel
theorem dX3_kinds_9 : decode cX3_kinds 9 = .ok (.ifCond .eq 10, 3) := by decide +kernel
theorem dX3_kinds_12 : decode cX3_kinds 12 = .ok (.aload_n 0, 1) := by decide +kernel
theorem dX3_kinds_13 : decode cX3_kinds 13 = .ok (.iload 4, 2) := by decide +kernel
theorem dX3_kinds_15 : decode cX3_kinds 15 = .ok (.invokevirtual 53, 3) := by decide +kernel
theorem dX3_kinds_18 : decode cX3_kinds 18 = .ok (.ireturn, 1) := by decide +kernel
theorem dX3_kinds_19 : decode cX3_kinds 19 = .ok (.aload_n 0, 1) := by decide +kernel
theorem dX3_kinds_20 : decode cX3_kinds 20 = .ok (.getfield 12, 3) := by decide +kernel
theorem dX3_kinds_23 : decode cX3_kinds 23 = .ok (.iload_n 2, 1) := by decide +kernel
theorem dX3_kinds_24 : decode cX3_kinds 24 = .ok (.invokevirtual 88, 3) := by decide +kernel
theorem dX3_kinds_27 : decode cX3_kinds 27 = .ok (.ifCond .eq 14, 3) := by decide +kernel
theorem dX3_kinds_30 : decode cX3_kinds 30 = .ok (.aload_n 0, 1) := by decide +kernel
theorem dX3_kinds_31 : decode cX3_kinds 31 = .ok (.getfield 12, 3) := by decide +kernel
theorem dX3_kinds_34 : decode cX3_kinds 34 = .ok (.iload_n 3, 1) := by decide +kernel
theorem dX3_kinds_35 : decode cX3_kinds 35 = .ok (.invokevirtual 101, 3) := by decide +kernel
theorem dX3_kinds_38 : decode cX3_kinds 38 = .ok (.ifCond .ne 10, 3) := by decide +kernel
theorem dX3_kinds_41 : decode cX3_kinds 41 = .ok (.aload_n 0, 1) := by decide +kernel
theorem dX3_kinds_42 : decode cX3_kinds 42 = .ok (.ldc 52, 2) := by decide +kernel
theorem dX3_kinds_44 : decode cX3_kinds 44 = .ok (.invokevirtual 53, 3) := by decide +kernel
theorem dX3_kinds_47 : decode cX3_kinds 47 = .ok (.ireturn, 1) := by decide +kernel
theorem dX3_kinds_48 : decode cX3_kinds 48 = .ok (.iconst 0, 1) := by decide +kernel
theorem dX3_kinds_49 : decode cX3_kinds 49 = .ok (.istore 5, 2) := by decide +kernel
theorem dX3_kinds_51 : decode cX3_kinds 51 = .ok (.iconst 0, 1) := by decide +kernel
theorem dX3_kinds_52 : decode cX3_kinds 52 = .ok (.istore 6, 2) := by decide +kernel
theorem dX3_kinds_54 : decode cX3_kinds 54 = .ok (.iload 6, 2) := by decide +kernel
theorem dX3_kinds_56 : decode cX3_kinds 56 = .ok (.bipush 7, 2) := by decide +kernel
theorem dX3_kinds_58 : decode cX3_kinds 58 = .ok (.if_icmp .ge 54, 3) := by decide +kernel
theorem dX3_kinds_61 : decode cX3_kinds 61 = .ok (.aload_n 0, 1) := by decide +kernel
theorem dX3_kinds_62 : decode cX3_kinds 62 = .ok (.getfield 19, 3) := by decide +kernel
theorem dX3_kinds_65 : decode cX3_kinds 65 = .ok (.aload_n 0, 1) := by decide +kernel
theorem dX3_kinds_66 : decode cX3_kinds 66 = .ok (.getfield 12, 3) := by decide +kernel
theorem dX3_kinds_69 : decode cX3_kinds 69 = .ok (.invokevirtual 169, 3) := by decide +kernel
theorem dX3_kinds_72 : decode cX3_kinds 72 = .ok (.aload_n 0, 1) := by decide +kernel
theorem dX3_kinds_73 : decode cX3_kinds 73 = .ok (.getfield 19, 3) := by decide +kernel
theorem dX3_kinds_76 : decode cX3_kinds 76 = .ok (.iload_n 2, 1) := by decide +kernel
theorem dX3_kinds_77 : decode cX3_kinds 77 = .ok (.iconst 0, 1) := by decide +kernel
theorem dX3_kinds_78 : decode cX3_kinds 78 = .ok (.iload 6, 2) := by decide +kernel
theorem dX3_kinds_80 : decode cX3_kinds 80 = .ok (.invokevirtual 98, 3) := by decide +kernel
theorem dX3_kinds_83 : decode cX3_kinds 83 = .ok (.aload_n 0, 1) := by decide +kernel
theorem dX3_kinds_84 : decode cX3_kinds 84 = .ok (.aload_n 0, 1) := by decide +kernel
theorem dX3_kinds_85 : decode cX3_kinds 85 = .ok (.getfield 31, 3) := by decide +kernel
theorem dX3_kinds_88 : decode cX3_kinds 88 = .ok (.iload_n 1, 1) := by decide +kernel
theorem dX3_kinds_89 : decode cX3_kinds 89 = .ok (.aaload, 1) := by decide +kernel
theorem dX3_kinds_90 : decode cX3_kinds 90 = .ok (.iload_n 3, 1) := by decide +kernel
theorem dX3_kinds_91 : decode cX3_kinds 91 = .ok (.invokevirtual 196, 3) := by decide +kernel
theorem dX3_kinds_94 : decode cX3_kinds 94 = .ok (.ifCond .eq 12, 3) := by decide +kernel
theorem dX3_kinds_97 : decode cX3_kinds 97 = .ok (.iload 5, 2) := by decide +kernel
theorem dX3_kinds_99 : decode cX3_kinds 99 = .ok (.iconst 1, 1) := by decide +kernel
theorem dX3_kinds_100 : decode cX3_kinds 100 = .ok (.iload 6, 2) := by decide +kernel
theorem dX3_kinds_102 : decode cX3_kinds 102 = .ok (.ishl, 1) := by decide +kernel
theorem dX3_kinds_103 : decode cX3_kinds 103 = .ok (.ior, 1) := by decide +kernel
theorem dX3_kinds_104 : decode cX3_kinds 104 = .ok (.istore 5, 2) := by decide +kernel
theorem dX3_kinds_106 : decode cX3_kinds 106 = .ok (.iinc 6 1, 3) := by decide +kernel
theorem dX3_kinds_109 : decode cX3_kinds 109 = .ok (.goto (-55), 3) := by decide +kernel
theorem dX3_kinds_112 : decode cX3_kinds 112 = .ok (.iload 5, 2) := by decide +kernel
theorem dX3_kinds_114 : decode cX3_kinds 114 = .ok (.ireturn, 1) := by decide +kernel
theorem dX3_coach_0 : decode cX3_coach 0 = .ok (.iload_n 1, 1) := by decide +kernel
theorem dX3_coach_1 : decode cX3_coach 1 = .ok (.iconst 1, 1) := by decide +kernel
theorem dX3_coach_2 : decode cX3_coach 2 = .ok (.bipush 20, 2) := by decide +kernel
theorem dX3_coach_4 : decode cX3_coach 4 = .ok (.invokestatic 48, 3) := by decide +kernel
theorem dX3_coach_7 : decode cX3_coach 7 = .ok (.ifCond .ne 10, 3) := by decide +kernel
theorem dX3_coach_10 : decode cX3_coach 10 = .ok (.aload_n 0, 1) := by decide +kernel
theorem dX3_coach_11 : decode cX3_coach 11 = .ok (.ldc 52, 2) := by decide +kernel
theorem dX3_coach_13 : decode cX3_coach 13 = .ok (.invokevirtual 53, 3) := by decide +kernel
theorem dX3_coach_16 : decode cX3_coach 16 = .ok (.ireturn, 1) := by decide +kernel
theorem dX3_coach_17 : decode cX3_coach 17 = .ok (.aload_n 0, 1) := by decide +kernel
theorem dX3_coach_18 : decode cX3_coach 18 = .ok (.getfield 12, 3) := by decide +kernel
theorem dX3_coach_21 : decode cX3_coach 21 = .ok (.getfield 139, 3) := by decide +kernel
theorem dX3_coach_24 : decode cX3_coach 24 = .ok (.iload_n 1, 1) := by decide +kernel
theorem dX3_coach_25 : decode cX3_coach 25 = .ok (.iadd, 1) := by decide +kernel
theorem dX3_coach_26 : decode cX3_coach 26 = .ok (.ldc 142, 2) := by decide +kernel
theorem dX3_coach_28 : decode cX3_coach 28 = .ok (.if_icmp .le 10, 3) := by decide +kernel
theorem dX3_coach_31 : decode cX3_coach 31 = .ok (.aload_n 0, 1) := by decide +kernel
theorem dX3_coach_32 : decode cX3_coach 32 = .ok (.ldc 134, 2) := by decide +kernel
theorem dX3_coach_34 : decode cX3_coach 34 = .ok (.invokevirtual 53, 3) := by decide +kernel
theorem dX3_coach_37 : decode cX3_coach 37 = .ok (.ireturn, 1) := by decide +kernel
theorem dX3_coach_38 : decode cX3_coach 38 = .ok (.iconst 0, 1) := by decide +kernel
theorem dX3_coach_39 : decode cX3_coach 39 = .ok (.istore_n 2, 1) := by decide +kernel
theorem dX3_coach_40 : decode cX3_coach 40 = .ok (.iload_n 2, 1) := by decide +kernel
theorem dX3_coach_41 : decode cX3_coach 41 = .ok (.iload_n 1, 1) := by decide +kernel
theorem dX3_coach_42 : decode cX3_coach 42 = .ok (.if_icmp .ge 59, 3) := by decide +kernel
theorem dX3_coach_45 : decode cX3_coach 45 = .ok (.aload_n 0, 1) := by decide +kernel
theorem dX3_coach_46 : decode cX3_coach 46 = .ok (.getfield 12, 3) := by decide +kernel
theorem dX3_coach_49 : decode cX3_coach 49 = .ok (.invokevirtual 200, 3) := by decide +kernel
theorem dX3_coach_52 : decode cX3_coach 52 = .ok (.bipush 6, 2) := by decide +kernel
theorem dX3_coach_54 : decode cX3_coach 54 = .ok (.irem, 1) := by decide +kernel
theorem dX3_coach_55 : decode cX3_coach 55 = .ok (.istore_n 3, 1) := by decide +kernel
theorem dX3_coach_56 : decode cX3_coach 56 = .ok (.aload_n 0, 1) := by decide +kernel
theorem dX3_coach_57 : decode cX3_coach 57 = .ok (.getfield 12, 3) := by decide +kernel
theorem dX3_coach_60 : decode cX3_coach 60 = .ok (.invokevirtual 200, 3) := by decide +kernel
theorem dX3_coach_63 : decode cX3_coach 63 = .ok (.bipush 8, 2) := by decide +kernel
theorem dX3_coach_65 : decode cX3_coach 65 = .ok (.irem, 1) := by decide +kernel
theorem dX3_coach_66 : decode cX3_coach 66 = .ok (.istore 4, 2) := by decide +kernel
theorem dX3_coach_68 : decode cX3_coach 68 = .ok (.aload_n 0, 1) := by decide +kernel
theorem dX3_coach_69 : decode cX3_coach 69 = .ok (.getfield 12, 3) := by decide +kernel
theorem dX3_coach_72 : decode cX3_coach 72 = .ok (.aload_n 0, 1) := by decide +kernel
theorem dX3_coach_73 : decode cX3_coach 73 = .ok (.getfield 12, 3) := by decide +kernel
theorem dX3_coach_76 : decode cX3_coach 76 = .ok (.getfield 139, 3) := by decide +kernel
theorem dX3_coach_79 : decode cX3_coach 79 = .ok (.bipush 6, 2) := by decide +kernel
theorem dX3_coach_81 : decode cX3_coach 81 = .ok (.irem, 1) := by decide +kernel
theorem dX3_coach_82 : decode cX3_coach 82 = .ok (.iload_n 3, 1) := by decide +kernel
theorem dX3_coach_83 : decode cX3_coach 83 = .ok (.iload 4, 2) := by decide +kernel
theorem dX3_coach_85 : decode cX3_coach 85 = .ok (.invokevirtual 60, 3) := by decide +kernel
theorem dX3_coach_88 : decode cX3_coach 88 = .ok (.aload_n 0, 1) := by decide +kernel
theorem dX3_coach_89 : decode cX3_coach 89 = .ok (.getfield 12, 3) := by decide +kernel
theorem dX3_coach_92 : decode cX3_coach 92 = .ok (.invokevirtual 173, 3) := by decide +kernel
theorem dX3_coach_95 : decode cX3_coach 95 = .ok (.iinc 2 1, 3) := by decide +kernel
theorem dX3_coach_98 : decode cX3_coach 98 = .ok (.goto (-58), 3) := by decide +kernel
theorem dX3_coach_101 : decode cX3_coach 101 = .ok (.aload_n 0, 1) := by decide +kernel
theorem dX3_coach_102 : decode cX3_coach 102 = .ok (.getfield 12, 3) := by decide +kernel
theorem dX3_coach_105 : decode cX3_coach 105 = .ok (.invokevirtual 147, 3) := by decide +kernel
theorem dX3_coach_108 : decode cX3_coach 108 = .ok (.ireturn, 1) := by decide +kernel
theorem dX3_odds_0 : decode cX3_odds 0 = .ok (.aload_n 0, 1) := by decide +kernel
theorem dX3_odds_1 : decode cX3_odds 1 = .ok (.getfield 12, 3) := by decide +kernel
theorem dX3_odds_4 : decode cX3_odds 4 = .ok (.iload_n 1, 1) := by decide +kernel
theorem dX3_odds_5 : decode cX3_odds 5 = .ok (.invokevirtual 101, 3) := by decide +kernel
theorem dX3_odds_8 : decode cX3_odds 8 = .ok (.ifCond .eq 34, 3) := by decide +kernel
theorem dX3_odds_11 : decode cX3_odds 11 = .ok (.aload_n 0, 1) := by decide +kernel
theorem dX3_odds_12 : decode cX3_odds 12 = .ok (.getfield 12, 3) := by decide +kernel
theorem dX3_odds_15 : decode cX3_odds 15 = .ok (.iload_n 2, 1) := by decide +kernel
theorem dX3_odds_16 : decode cX3_odds 16 = .ok (.invokevirtual 88, 3) := by decide +kernel
theorem dX3_odds_19 : decode cX3_odds 19 = .ok (.ifCond .eq 23, 3) := by decide +kernel
theorem dX3_odds_22 : decode cX3_odds 22 = .ok (.iload_n 3, 1) := by decide +kernel
theorem dX3_odds_23 : decode cX3_odds 23 = .ok (.iconst 0, 1) := by decide +kernel
theorem dX3_odds_24 : decode cX3_odds 24 = .ok (.bipush 9, 2) := by decide +kernel
theorem dX3_odds_26 : decode cX3_odds 26 = .ok (.invokestatic 48, 3) := by decide +kernel
theorem dX3_odds_29 : decode cX3_odds 29 = .ok (.ifCond .eq 13, 3) := by decide +kernel
theorem dX3_odds_32 : decode cX3_odds 32 = .ok (.iload 4, 2) := by decide +kernel
theorem dX3_odds_34 : decode cX3_odds 34 = .ok (.iconst 0, 1) := by decide +kernel
theorem dX3_odds_35 : decode cX3_odds 35 = .ok (.iconst 1, 1) := by decide +kernel
theorem dX3_odds_36 : decode cX3_odds 36 = .ok (.invokestatic 48, 3) := by decide +kernel
theorem dX3_odds_39 : decode cX3_odds 39 = .ok (.ifCond .ne 11, 3) := by decide +kernel
theorem dX3_odds_42 : decode cX3_odds 42 = .ok (.aload_n 0, 1) := by decide +kernel
theorem dX3_odds_43 : decode cX3_odds 43 = .ok (.ldc 52, 2) := by decide +kernel
theorem dX3_odds_45 : decode cX3_odds 45 = .ok (.invokevirtual 53, 3) := by decide +kernel
theorem dX3_odds_48 : decode cX3_odds 48 = .ok (.i2l, 1) := by decide +kernel
theorem dX3_odds_49 : decode cX3_odds 49 = .ok (.lreturn, 1) := by decide +kernel
theorem dX3_odds_50 : decode cX3_odds 50 = .ok (.aload_n 0, 1) := by decide +kernel
theorem dX3_odds_51 : decode cX3_odds 51 = .ok (.getfield 19, 3) := by decide +kernel
theorem dX3_odds_54 : decode cX3_odds 54 = .ok (.aload_n 0, 1) := by decide +kernel
theorem dX3_odds_55 : decode cX3_odds 55 = .ok (.getfield 12, 3) := by decide +kernel
theorem dX3_odds_58 : decode cX3_odds 58 = .ok (.invokevirtual 169, 3) := by decide +kernel
theorem dX3_odds_61 : decode cX3_odds 61 = .ok (.iconst 0, 1) := by decide +kernel
theorem dX3_odds_62 : decode cX3_odds 62 = .ok (.istore 5, 2) := by decide +kernel
theorem dX3_odds_64 : decode cX3_odds 64 = .ok (.iconst 0, 1) := by decide +kernel
theorem dX3_odds_65 : decode cX3_odds 65 = .ok (.istore 6, 2) := by decide +kernel
theorem dX3_odds_67 : decode cX3_odds 67 = .ok (.iload 6, 2) := by decide +kernel
theorem dX3_odds_69 : decode cX3_odds 69 = .ok (.bipush 100, 2) := by decide +kernel
theorem dX3_odds_71 : decode cX3_odds 71 = .ok (.if_icmp .ge 35, 3) := by decide +kernel
theorem dX3_odds_74 : decode cX3_odds 74 = .ok (.aload_n 0, 1) := by decide +kernel
theorem dX3_odds_75 : decode cX3_odds 75 = .ok (.getfield 19, 3) := by decide +kernel
theorem dX3_odds_78 : decode cX3_odds 78 = .ok (.iload_n 1, 1) := by decide +kernel
theorem dX3_odds_79 : decode cX3_odds 79 = .ok (.iconst 0, 1) := by decide +kernel
theorem dX3_odds_80 : decode cX3_odds 80 = .ok (.iload 6, 2) := by decide +kernel
theorem dX3_odds_82 : decode cX3_odds 82 = .ok (.invokevirtual 113, 3) := by decide +kernel
theorem dX3_odds_85 : decode cX3_odds 85 = .ok (.aload_n 0, 1) := by decide +kernel
theorem dX3_odds_86 : decode cX3_odds 86 = .ok (.getfield 19, 3) := by decide +kernel
theorem dX3_odds_89 : decode cX3_odds 89 = .ok (.iload_n 1, 1) := by decide +kernel
theorem dX3_odds_90 : decode cX3_odds 90 = .ok (.iload_n 2, 1) := by decide +kernel
theorem dX3_odds_91 : decode cX3_odds 91 = .ok (.invokevirtual 116, 3) := by decide +kernel
theorem dX3_odds_94 : decode cX3_odds 94 = .ok (.ifCond .eq 6, 3) := by decide +kernel
theorem dX3_odds_97 : decode cX3_odds 97 = .ok (.iinc 5 1, 3) := by decide +kernel
theorem dX3_odds_100 : decode cX3_odds 100 = .ok (.iinc 6 1, 3) := by decide +kernel
theorem dX3_odds_103 : decode cX3_odds 103 = .ok (.goto (-36), 3) := by decide +kernel
theorem dX3_odds_106 : decode cX3_odds 106 = .ok (.iload 5, 2) := by decide +kernel
theorem dX3_odds_108 : decode cX3_odds 108 = .ok (.invokestatic 203, 3) := by decide +kernel
theorem dX3_odds_111 : decode cX3_odds 111 = .ok (.istore 6, 2) := by decide +kernel
theorem dX3_odds_113 : decode cX3_odds 113 = .ok (.iload 4, 2) := by decide +kernel
theorem dX3_odds_115 : decode cX3_odds 115 = .ok (.ifCond .ne 11, 3) := by decide +kernel
theorem dX3_odds_118 : decode cX3_odds 118 = .ok (.iload 5, 2) := by decide +kernel
theorem dX3_odds_120 : decode cX3_odds 120 = .ok (.iload 6, 2) := by decide +kernel
theorem dX3_odds_122 : decode cX3_odds 122 = .ok (.idiv, 1) := by decide +kernel
theorem dX3_odds_123 : decode cX3_odds 123 = .ok (.goto 8, 3) := by decide +kernel
theorem dX3_odds_126 : decode cX3_odds 126 = .ok (.bipush 100, 2) := by decide +kernel
theorem dX3_odds_128 : decode cX3_odds 128 = .ok (.iload 6, 2) := by decide +kernel
theorem dX3_odds_130 : decode cX3_odds 130 = .ok (.idiv, 1) := by decide +kernel
theorem dX3_odds_131 : decode cX3_odds 131 = .ok (.iload_n 3, 1) := by decide +kernel
theorem dX3_odds_132 : decode cX3_odds 132 = .ok (.invokestatic 206, 3) := by decide +kernel
theorem dX3_odds_135 : decode cX3_odds 135 = .ok (.lreturn, 1) := by decide +kernel
theorem dX3_seed_0 : decode cX3_seed 0 = .ok (.aload_n 0, 1) := by decide +kernel
theorem dX3_seed_1 : decode cX3_seed 1 = .ok (.getfield 12, 3) := by decide +kernel
theorem dX3_seed_4 : decode cX3_seed 4 = .ok (.getfield 210, 3) := by decide +kernel
theorem dX3_seed_7 : decode cX3_seed 7 = .ok (.istore_n 2, 1) := by decide +kernel
theorem dX3_seed_8 : decode cX3_seed 8 = .ok (.aload_n 0, 1) := by decide +kernel
theorem dX3_seed_9 : decode cX3_seed 9 = .ok (.getfield 12, 3) := by decide +kernel
theorem dX3_seed_12 : decode cX3_seed 12 = .ok (.iload_n 1, 1) := by decide +kernel
theorem dX3_seed_13 : decode cX3_seed 13 = .ok (.putfield 210, 3) := by decide +kernel
theorem dX3_seed_16 : decode cX3_seed 16 = .ok (.iload_n 2, 1) := by decide +kernel
theorem dX3_seed_17 : decode cX3_seed 17 = .ok (.ireturn, 1) := by decide +kernel
theorem dX3_feed_0 : decode cX3_feed 0 = .ok (.iload_n 2, 1) := by decide +kernel
theorem dX3_feed_1 : decode cX3_feed 1 = .ok (.iconst 1, 1) := by decide +kernel
theorem dX3_feed_2 : decode cX3_feed 2 = .ok (.iconst 4, 1) := by decide +kernel
theorem dX3_feed_3 : decode cX3_feed 3 = .ok (.invokestatic 48, 3) := by decide +kernel
theorem dX3_feed_6 : decode cX3_feed 6 = .ok (.ifCond .ne 10, 3) := by decide +kernel
theorem dX3_feed_9 : decode cX3_feed 9 = .ok (.aload_n 0, 1) := by decide +kernel
theorem dX3_feed_10 : decode cX3_feed 10 = .ok (.ldc 52, 2) := by decide +kernel
theorem dX3_feed_12 : decode cX3_feed 12 = .ok (.invokevirtual 53, 3) := by decide +kernel
theorem dX3_feed_15 : decode cX3_feed 15 = .ok (.ireturn, 1) := by decide +kernel
theorem dX3_feed_16 : decode cX3_feed 16 = .ok (.aload_n 0, 1) := by decide +kernel
theorem dX3_feed_17 : decode cX3_feed 17 = .ok (.getfield 25, 3) := by decide +kernel
theorem dX3_feed_20 : decode cX3_feed 20 = .ok (.getfield 213, 3) := by decide +kernel
theorem dX3_feed_23 : decode cX3_feed 23 = .ok (.iload_n 2, 1) := by decide +kernel
theorem dX3_feed_24 : decode cX3_feed 24 = .ok (.iadd, 1) := by decide +kernel
theorem dX3_feed_25 : decode cX3_feed 25 = .ok (.bipush 120, 2) := by decide +kernel
theorem dX3_feed_27 : decode cX3_feed 27 = .ok (.if_icmp .le 10, 3) := by decide +kernel
theorem dX3_feed_30 : decode cX3_feed 30 = .ok (.aload_n 0, 1) := by decide +kernel
theorem dX3_feed_31 : decode cX3_feed 31 = .ok (.ldc 74, 2) := by decide +kernel
theorem dX3_feed_33 : decode cX3_feed 33 = .ok (.invokevirtual 53, 3) := by decide +kernel
theorem dX3_feed_36 : decode cX3_feed 36 = .ok (.ireturn, 1) := by decide +kernel
theorem dX3_feed_37 : decode cX3_feed 37 = .ok (.iload_n 2, 1) := by decide +kernel
theorem dX3_feed_38 : decode cX3_feed 38 = .ok (.iconst 1, 1) := by decide +kernel
theorem dX3_feed_39 : decode cX3_feed 39 = .ok (.isub, 1) := by decide +kernel
theorem dX3_feed_40 : decode cX3_feed 40 = .ok (.istore_n 3, 1) := by decide +kernel
theorem dX3_feed_41 : decode cX3_feed 41 = .ok (.iload_n 3, 1) := by decide +kernel
theorem dX3_feed_42 : decode cX3_feed 42 = .ok (.ifCond .lt 23, 3) := by decide +kernel
theorem dX3_feed_45 : decode cX3_feed 45 = .ok (.aload_n 0, 1) := by decide +kernel
theorem dX3_feed_46 : decode cX3_feed 46 = .ok (.getfield 25, 3) := by decide +kernel
theorem dX3_feed_49 : decode cX3_feed 49 = .ok (.iload_n 1, 1) := by decide +kernel
theorem dX3_feed_50 : decode cX3_feed 50 = .ok (.bipush 8, 2) := by decide +kernel
theorem dX3_feed_52 : decode cX3_feed 52 = .ok (.iload_n 3, 1) := by decide +kernel
theorem dX3_feed_53 : decode cX3_feed 53 = .ok (.imul, 1) := by decide +kernel
theorem dX3_feed_54 : decode cX3_feed 54 = .ok (.ishr, 1) := by decide +kernel
theorem dX3_feed_55 : decode cX3_feed 55 = .ok (.i2b, 1) := by decide +kernel
theorem dX3_feed_56 : decode cX3_feed 56 = .ok (.invokevirtual 216, 3) := by decide +kernel
theorem dX3_feed_59 : decode cX3_feed 59 = .ok (.iinc 3 (-1), 3) := by decide +kernel
theorem dX3_feed_62 : decode cX3_feed 62 = .ok (.goto (-21), 3) := by decide +kernel
theorem dX3_feed_65 : decode cX3_feed 65 = .ok (.aload_n 0, 1) := by decide +kernel
theorem dX3_feed_66 : decode cX3_feed 66 = .ok (.getfield 25, 3) := by decide +kernel
theorem dX3_feed_69 : decode cX3_feed 69 = .ok (.getfield 213, 3) := by decide +kernel
theorem dX3_feed_72 : decode cX3_feed 72 = .ok (.ireturn, 1) := by decide +kernel
theorem dX3_wipe_0 : decode cX3_wipe 0 = .ok (.aload_n 0, 1) := by decide +kernel
theorem dX3_wipe_1 : decode cX3_wipe 1 = .ok (.getfield 25, 3) := by decide +kernel
theorem dX3_wipe_4 : decode cX3_wipe 4 = .ok (.getfield 213, 3) := by decide +kernel
theorem dX3_wipe_7 : decode cX3_wipe 7 = .ok (.istore_n 1, 1) := by decide +kernel
theorem dX3_wipe_8 : decode cX3_wipe 8 = .ok (.aload_n 0, 1) := by decide +kernel
theorem dX3_wipe_9 : decode cX3_wipe 9 = .ok (.getfield 25, 3) := by decide +kernel
theorem dX3_wipe_12 : decode cX3_wipe 12 = .ok (.iconst 0, 1) := by decide +kernel
theorem dX3_wipe_13 : decode cX3_wipe 13 = .ok (.putfield 213, 3) := by decide +kernel
theorem dX3_wipe_16 : decode cX3_wipe 16 = .ok (.iload_n 1, 1) := by decide +kernel
theorem dX3_wipe_17 : decode cX3_wipe 17 = .ok (.ireturn, 1) := by decide +kernel
theorem dX3_text_0 : decode cX3_text 0 = .ok (.aload_n 0, 1) := by decide +kernel
theorem dX3_text_1 : decode cX3_text 1 = .ok (.getfield 19, 3) := by decide +kernel
theorem dX3_text_4 : decode cX3_text 4 = .ok (.aload_n 0, 1) := by decide +kernel
theorem dX3_text_5 : decode cX3_text 5 = .ok (.getfield 12, 3) := by decide +kernel
theorem dX3_text_8 : decode cX3_text 8 = .ok (.invokevirtual 169, 3) := by decide +kernel
theorem dX3_text_11 : decode cX3_text 11 = .ok (.aload_n 0, 1) := by decide +kernel
theorem dX3_text_12 : decode cX3_text 12 = .ok (.getfield 25, 3) := by decide +kernel
theorem dX3_text_15 : decode cX3_text 15 = .ok (.aload_n 0, 1) := by decide +kernel
theorem dX3_text_16 : decode cX3_text 16 = .ok (.getfield 19, 3) := by decide +kernel
theorem dX3_text_19 : decode cX3_text 19 = .ok (.invokevirtual 220, 3) := by decide +kernel
theorem dX3_text_22 : decode cX3_text 22 = .ok (.istore_n 1, 1) := by decide +kernel
theorem dX3_text_23 : decode cX3_text 23 = .ok (.aload_n 0, 1) := by decide +kernel
theorem dX3_text_24 : decode cX3_text 24 = .ok (.getfield 25, 3) := by decide +kernel
theorem dX3_text_27 : decode cX3_text 27 = .ok (.iconst 0, 1) := by decide +kernel
theorem dX3_text_28 : decode cX3_text 28 = .ok (.putfield 213, 3) := by decide +kernel
theorem dX3_text_31 : decode cX3_text 31 = .ok (.iload_n 1, 1) := by decide +kernel
theorem dX3_text_32 : decode cX3_text 32 = .ok (.ifCond .lt 14, 3) := by decide +kernel
theorem dX3_text_35 : decode cX3_text 35 = .ok (.aload_n 0, 1) := by decide +kernel
theorem dX3_text_36 : decode cX3_text 36 = .ok (.getfield 12, 3) := by decide +kernel
theorem dX3_text_39 : decode cX3_text 39 = .ok (.aload_n 0, 1) := by decide +kernel
theorem dX3_text_40 : decode cX3_text 40 = .ok (.getfield 19, 3) := by decide +kernel
theorem dX3_text_43 : decode cX3_text 43 = .ok (.invokevirtual 169, 3) := by decide +kernel
theorem dX3_text_46 : decode cX3_text 46 = .ok (.iload_n 1, 1) := by decide +kernel
theorem dX3_text_47 : decode cX3_text 47 = .ok (.ireturn, 1) := by decide +kernel
theorem dX3_hold_0 : decode cX3_hold 0 = .ok (.iload_n 1, 1) := by decide +kernel
theorem dX3_hold_1 : decode cX3_hold 1 = .ok (.invokestatic 224, 3) := by decide +kernel
theorem dX3_hold_4 : decode cX3_hold 4 = .ok (.ifCond .eq 19, 3) := by decide +kernel
theorem dX3_hold_7 : decode cX3_hold 7 = .ok (.iload_n 2, 1) := by decide +kernel
theorem dX3_hold_8 : decode cX3_hold 8 = .ok (.iconst (-1), 1) := by decide +kernel
theorem dX3_hold_9 : decode cX3_hold 9 = .ok (.if_icmp .eq 21, 3) := by decide +kernel
theorem dX3_hold_12 : decode cX3_hold 12 = .ok (.aload_n 0, 1) := by decide +kernel
theorem dX3_hold_13 : decode cX3_hold 13 = .ok (.getfield 12, 3) := by decide +kernel
theorem dX3_hold_16 : decode cX3_hold 16 = .ok (.iload_n 2, 1) := by decide +kernel
theorem dX3_hold_17 : decode cX3_hold 17 = .ok (.invokevirtual 88, 3) := by decide +kernel
theorem dX3_hold_20 : decode cX3_hold 20 = .ok (.ifCond .ne 10, 3) := by decide +kernel
theorem dX3_hold_23 : decode cX3_hold 23 = .ok (.aload_n 0, 1) := by decide +kernel
theorem dX3_hold_24 : decode cX3_hold 24 = .ok (.ldc 52, 2) := by decide +kernel
theorem dX3_hold_26 : decode cX3_hold 26 = .ok (.invokevirtual 53, 3) := by decide +kernel
theorem dX3_hold_29 : decode cX3_hold 29 = .ok (.ireturn, 1) := by decide +kernel
theorem dX3_hold_30 : decode cX3_hold 30 = .ok (.aload_n 0, 1) := by decide +kernel
theorem dX3_hold_31 : decode cX3_hold 31 = .ok (.getfield 12, 3) := by decide +kernel
theorem dX3_hold_34 : decode cX3_hold 34 = .ok (.getfield 227, 3) := by decide +kernel
theorem dX3_hold_37 : decode cX3_hold 37 = .ok (.iload_n 1, 1) := by decide +kernel
theorem dX3_hold_38 : decode cX3_hold 38 = .ok (.iload_n 2, 1) := by decide +kernel
theorem dX3_hold_39 : decode cX3_hold 39 = .ok (.iastore, 1) := by decide +kernel
theorem dX3_hold_40 : decode cX3_hold 40 = .ok (.iconst 1, 1) := by decide +kernel
theorem dX3_hold_41 : decode cX3_hold 41 = .ok (.ireturn, 1) := by decide +kernel
theorem dX3_as_0 : decode cX3_as 0 = .ok (.iload_n 1, 1) := by decide +kernel
theorem dX3_as_1 : decode cX3_as 1 = .ok (.invokestatic 224, 3) := by decide +kernel
theorem dX3_as_4 : decode cX3_as 4 = .ok (.ifCond .eq 10, 3) := by decide +kernel
theorem dX3_as_7 : decode cX3_as 7 = .ok (.iload_n 2, 1) := by decide +kernel
theorem dX3_as_8 : decode cX3_as 8 = .ok (.invokestatic 64, 3) := by decide +kernel
theorem dX3_as_11 : decode cX3_as 11 = .ok (.ifCond .ne 10, 3) := by decide +kernel
theorem dX3_as_14 : decode cX3_as 14 = .ok (.aload_n 0, 1) := by decide +kernel
theorem dX3_as_15 : decode cX3_as 15 = .ok (.ldc 52, 2) := by decide +kernel
theorem dX3_as_17 : decode cX3_as 17 = .ok (.invokevirtual 53, 3) := by decide +kernel
theorem dX3_as_20 : decode cX3_as 20 = .ok (.ireturn, 1) := by decide +kernel
theorem dX3_as_21 : decode cX3_as 21 = .ok (.aload_n 0, 1) := by decide +kernel
theorem dX3_as_22 : decode cX3_as 22 = .ok (.getfield 12, 3) := by decide +kernel
theorem dX3_as_25 : decode cX3_as 25 = .ok (.getfield 227, 3) := by decide +kernel
theorem dX3_as_28 : decode cX3_as 28 = .ok (.iload_n 1, 1) := by decide +kernel
theorem dX3_as_29 : decode cX3_as 29 = .ok (.iaload, 1) := by decide +kernel
theorem dX3_as_30 : decode cX3_as 30 = .ok (.istore_n 3, 1) := by decide +kernel
theorem dX3_as_31 : decode cX3_as 31 = .ok (.aload_n 0, 1) := by decide +kernel
theorem dX3_as_32 : decode cX3_as 32 = .ok (.getfield 12, 3) := by decide +kernel
theorem dX3_as_35 : decode cX3_as 35 = .ok (.iload_n 3, 1) := by decide +kernel
theorem dX3_as_36 : decode cX3_as 36 = .ok (.invokevirtual 88, 3) := by decide +kernel
theorem dX3_as_39 : decode cX3_as 39 = .ok (.ifCond .ne 10, 3) := by decide +kernel
theorem dX3_as_42 : decode cX3_as 42 = .ok (.aload_n 0, 1) := by decide +kernel
theorem dX3_as_43 : decode cX3_as 43 = .ok (.ldc 230, 2) := by decide +kernel
theorem dX3_as_45 : decode cX3_as 45 = .ok (.invokevirtual 53, 3) := by decide +kernel
theorem dX3_as_48 : decode cX3_as 48 = .ok (.ireturn, 1) := by decide +kernel
theorem dX3_as_49 : decode cX3_as 49 = .ok (.aload_n 0, 1) := by decide +kernel
theorem dX3_as_50 : decode cX3_as 50 = .ok (.getfield 12, 3) := by decide +kernel
theorem dX3_as_53 : decode cX3_as 53 = .ok (.iload_n 3, 1) := by decide +kernel
theorem dX3_as_54 : decode cX3_as 54 = .ok (.iconst 0, 1) := by decide +kernel
theorem dX3_as_55 : decode cX3_as 55 = .ok (.invokevirtual 91, 3) := by decide +kernel
theorem dX3_as_58 : decode cX3_as 58 = .ok (.iload_n 2, 1) := by decide +kernel
theorem dX3_as_59 : decode cX3_as 59 = .ok (.invokestatic 231, 3) := by decide +kernel
theorem dX3_as_62 : decode cX3_as 62 = .ok (.ifCond .ne 10, 3) := by decide +kernel
theorem dX3_as_65 : decode cX3_as 65 = .ok (.aload_n 0, 1) := by decide +kernel
theorem dX3_as_66 : decode cX3_as 66 = .ok (.ldc 234, 2) := by decide +kernel
theorem dX3_as_68 : decode cX3_as 68 = .ok (.invokevirtual 53, 3) := by decide +kernel
theorem dX3_as_71 : decode cX3_as 71 = .ok (.ireturn, 1) := by decide +kernel
theorem dX3_as_72 : decode cX3_as 72 = .ok (.iload_n 3, 1) := by decide +kernel
theorem dX3_as_73 : decode cX3_as 73 = .ok (.ireturn, 1) := by decide +kernel
theorem dX3_sheet_0 : decode cX3_sheet 0 = .ok (.iload_n 1, 1) := by decide +kernel
theorem dX3_sheet_1 : decode cX3_sheet 1 = .ok (.invokestatic 235, 3) := by decide +kernel
theorem dX3_sheet_4 : decode cX3_sheet 4 = .ok (.ifCond .eq 25, 3) := by decide +kernel
theorem dX3_sheet_7 : decode cX3_sheet 7 = .ok (.iload_n 2, 1) := by decide +kernel
theorem dX3_sheet_8 : decode cX3_sheet 8 = .ok (.ifCond .eq 28, 3) := by decide +kernel
theorem dX3_sheet_11 : decode cX3_sheet 11 = .ok (.iload_n 2, 1) := by decide +kernel
theorem dX3_sheet_12 : decode cX3_sheet 12 = .ok (.bipush 8, 2) := by decide +kernel
theorem dX3_sheet_14 : decode cX3_sheet 14 = .ok (.if_icmp .eq 22, 3) := by decide +kernel
theorem dX3_sheet_17 : decode cX3_sheet 17 = .ok (.iload_n 2, 1) := by decide +kernel
theorem dX3_sheet_18 : decode cX3_sheet 18 = .ok (.bipush 16, 2) := by decide +kernel
theorem dX3_sheet_20 : decode cX3_sheet 20 = .ok (.if_icmp .eq 16, 3) := by decide +kernel
theorem dX3_sheet_23 : decode cX3_sheet 23 = .ok (.iload_n 2, 1) := by decide +kernel
theorem dX3_sheet_24 : decode cX3_sheet 24 = .ok (.bipush 32, 2) := by decide +kernel
theorem dX3_sheet_26 : decode cX3_sheet 26 = .ok (.if_icmp .eq 10, 3) := by decide +kernel
theorem dX3_sheet_29 : decode cX3_sheet 29 = .ok (.aload_n 0, 1) := by decide +kernel
theorem dX3_sheet_30 : decode cX3_sheet 30 = .ok (.ldc 52, 2) := by decide +kernel
theorem dX3_sheet_32 : decode cX3_sheet 32 = .ok (.invokevirtual 53, 3) := by decide +kernel
theorem dX3_sheet_35 : decode cX3_sheet 35 = .ok (.ireturn, 1) := by decide +kernel
theorem dX3_sheet_36 : decode cX3_sheet 36 = .ok (.iload_n 3, 1) := by decide +kernel
theorem dX3_sheet_37 : decode cX3_sheet 37 = .ok (.ifCond .ge 10, 3) := by decide +kernel
theorem dX3_sheet_40 : decode cX3_sheet 40 = .ok (.aload_n 0, 1) := by decide +kernel
theorem dX3_sheet_41 : decode cX3_sheet 41 = .ok (.ldc 238, 2) := by decide +kernel
theorem dX3_sheet_43 : decode cX3_sheet 43 = .ok (.invokevirtual 53, 3) := by decide +kernel
theorem dX3_sheet_46 : decode cX3_sheet 46 = .ok (.ireturn, 1) := by decide +kernel
theorem dX3_sheet_47 : decode cX3_sheet 47 = .ok (.iload_n 3, 1) := by decide +kernel
theorem dX3_sheet_48 : decode cX3_sheet 48 = .ok (.bipush 40, 2) := by decide +kernel
theorem dX3_sheet_50 : decode cX3_sheet 50 = .ok (.if_icmp .le 10, 3) := by decide +kernel
theorem dX3_sheet_53 : decode cX3_sheet 53 = .ok (.aload_n 0, 1) := by decide +kernel
theorem dX3_sheet_54 : decode cX3_sheet 54 = .ok (.ldc 52, 2) := by decide +kernel
theorem dX3_sheet_56 : decode cX3_sheet 56 = .ok (.invokevirtual 53, 3) := by decide +kernel
theorem dX3_sheet_59 : decode cX3_sheet 59 = .ok (.ireturn, 1) := by decide +kernel
theorem dX3_sheet_60 : decode cX3_sheet 60 = .ok (.aload_n 0, 1) := by decide +kernel
theorem dX3_sheet_61 : decode cX3_sheet 61 = .ok (.getfield 31, 3) := by decide +kernel
theorem dX3_sheet_64 : decode cX3_sheet 64 = .ok (.iload_n 1, 1) := by decide +kernel
theorem dX3_sheet_65 : decode cX3_sheet 65 = .ok (.aaload, 1) := by decide +kernel
theorem dX3_sheet_66 : decode cX3_sheet 66 = .ok (.iload_n 2, 1) := by decide +kernel
theorem dX3_sheet_67 : decode cX3_sheet 67 = .ok (.iload_n 2, 1) := by decide +kernel
theorem dX3_sheet_68 : decode cX3_sheet 68 = .ok (.ifCond .ne 7, 3) := by decide +kernel
theorem dX3_sheet_71 : decode cX3_sheet 71 = .ok (.iconst 0, 1) := by decide +kernel
theorem dX3_sheet_72 : decode cX3_sheet 72 = .ok (.goto 4, 3) := by decide +kernel
theorem dX3_sheet_75 : decode cX3_sheet 75 = .ok (.iload_n 3, 1) := by decide +kernel
theorem dX3_sheet_76 : decode cX3_sheet 76 = .ok (.invokevirtual 239, 3) := by decide +kernel
theorem dX3_sheet_79 : decode cX3_sheet 79 = .ok (.aload_n 0, 1) := by decide +kernel
theorem dX3_sheet_80 : decode cX3_sheet 80 = .ok (.getfield 31, 3) := by decide +kernel
theorem dX3_sheet_83 : decode cX3_sheet 83 = .ok (.iload_n 1, 1) := by decide +kernel
theorem dX3_sheet_84 : decode cX3_sheet 84 = .ok (.aaload, 1) := by decide +kernel
theorem dX3_sheet_85 : decode cX3_sheet 85 = .ok (.getfield 242, 3) := by decide +kernel
theorem dX3_sheet_88 : decode cX3_sheet 88 = .ok (.ireturn, 1) := by decide +kernel
theorem dX3_write_0 : decode cX3_write 0 = .ok (.aload_n 0, 1) := by decide +kernel
theorem dX3_write_1 : decode cX3_write 1 = .ok (.iload_n 1, 1) := by decide +kernel
theorem dX3_write_2 : decode cX3_write 2 = .ok (.invokevirtual 193, 3) := by decide +kernel
theorem dX3_write_5 : decode cX3_write 5 = .ok (.istore 4, 2) := by decide +kernel
theorem dX3_write_7 : decode cX3_write 7 = .ok (.iload 4, 2) := by decide +kernel
theorem dX3_write_9 : decode cX3_write 9 = .ok (.ifCond .eq 10, 3) := by decide +kernel
theorem dX3_write_12 : decode cX3_write 12 = .ok (.aload_n 0, 1) := by decide +kernel
theorem dX3_write_13 : decode cX3_write 13 = .ok (.iload 4, 2) := by decide +kernel
theorem dX3_write_15 : decode cX3_write 15 = .ok (.invokevirtual 53, 3) := by decide +kernel
theorem dX3_write_18 : decode cX3_write 18 = .ok (.ireturn, 1) := by decide +kernel
theorem dX3_write_19 : decode cX3_write 19 = .ok (.iload_n 2, 1) := by decide +kernel
theorem dX3_write_20 : decode cX3_write 20 = .ok (.iconst 0, 1) := by decide +kernel
theorem dX3_write_21 : decode cX3_write 21 = .ok (.aload_n 0, 1) := by decide +kernel
theorem dX3_write_22 : decode cX3_write 22 = .ok (.getfield 31, 3) := by decide +kernel
theorem dX3_write_25 : decode cX3_write 25 = .ok (.iload_n 1, 1) := by decide +kernel
theorem dX3_write_26 : decode cX3_write 26 = .ok (.aaload, 1) := by decide +kernel
theorem dX3_write_27 : decode cX3_write 27 = .ok (.getfield 242, 3) := by decide +kernel
theorem dX3_write_30 : decode cX3_write 30 = .ok (.iconst 1, 1) := by decide +kernel
theorem dX3_write_31 : decode cX3_write 31 = .ok (.isub, 1) := by decide +kernel
theorem dX3_write_32 : decode cX3_write 32 = .ok (.invokestatic 48, 3) := by decide +kernel
theorem dX3_write_35 : decode cX3_write 35 = .ok (.ifCond .ne 10, 3) := by decide +kernel
theorem dX3_write_38 : decode cX3_write 38 = .ok (.aload_n 0, 1) := by decide +kernel
theorem dX3_write_39 : decode cX3_write 39 = .ok (.ldc 52, 2) := by decide +kernel
theorem dX3_write_41 : decode cX3_write 41 = .ok (.invokevirtual 53, 3) := by decide +kernel
theorem dX3_write_44 : decode cX3_write 44 = .ok (.ireturn, 1) := by decide +kernel
theorem dX3_write_45 : decode cX3_write 45 = .ok (.aload_n 0, 1) := by decide +kernel
theorem dX3_write_46 : decode cX3_write 46 = .ok (.getfield 31, 3) := by decide +kernel
theorem dX3_write_49 : decode cX3_write 49 = .ok (.iload_n 1, 1) := by decide +kernel
theorem dX3_write_50 : decode cX3_write 50 = .ok (.aaload, 1) := by decide +kernel
theorem dX3_write_51 : decode cX3_write 51 = .ok (.iload_n 2, 1) := by decide +kernel
theorem dX3_write_52 : decode cX3_write 52 = .ok (.iload_n 3, 1) := by decide +kernel
theorem dX3_write_53 : decode cX3_write 53 = .ok (.invokevirtual 243, 3) := by decide +kernel
theorem dX3_write_56 : decode cX3_write 56 = .ok (.iconst 1, 1) := by decide +kernel
theorem dX3_write_57 : decode cX3_write 57 = .ok (.ireturn, 1) := by decide +kernel
theorem dX3_copy_0 : decode cX3_copy 0 = .ok (.iload_n 1, 1) := by decide +kernel
theorem dX3_copy_1 : decode cX3_copy 1 = .ok (.invokestatic 235, 3) := by decide +kernel
theorem dX3_copy_4 : decode cX3_copy 4 = .ok (.ifCond .eq 10, 3) := by decide +kernel
theorem dX3_copy_7 : decode cX3_copy 7 = .ok (.iload_n 3, 1) := by decide +kernel
theorem dX3_copy_8 : decode cX3_copy 8 = .ok (.invokestatic 235, 3) := by decide +kernel
theorem dX3_copy_11 : decode cX3_copy 11 = .ok (.ifCond .ne 10, 3) := by decide +kernel
theorem dX3_copy_14 : decode cX3_copy 14 = .ok (.aload_n 0, 1) := by decide +kernel
theorem dX3_copy_15 : decode cX3_copy 15 = .ok (.ldc 52, 2) := by decide +kernel
theorem dX3_copy_17 : decode cX3_copy 17 = .ok (.invokevirtual 53, 3) := by decide +kernel
theorem dX3_copy_20 : decode cX3_copy 20 = .ok (.ireturn, 1) := by decide +kernel
theorem dX3_copy_21 : decode cX3_copy 21 = .ok (.aload_n 0, 1) := by decide +kernel
theorem dX3_copy_22 : decode cX3_copy 22 = .ok (.getfield 31, 3) := by decide +kernel
theorem dX3_copy_25 : decode cX3_copy 25 = .ok (.iload_n 1, 1) := by decide +kernel
theorem dX3_copy_26 : decode cX3_copy 26 = .ok (.aaload, 1) := by decide +kernel
theorem dX3_copy_27 : decode cX3_copy 27 = .ok (.astore 6, 2) := by decide +kernel
theorem dX3_copy_29 : decode cX3_copy 29 = .ok (.aload_n 0, 1) := by decide +kernel
theorem dX3_copy_30 : decode cX3_copy 30 = .ok (.getfield 31, 3) := by decide +kernel
theorem dX3_copy_33 : decode cX3_copy 33 = .ok (.iload_n 3, 1) := by decide +kernel
theorem dX3_copy_34 : decode cX3_copy 34 = .ok (.aaload, 1) := by decide +kernel
theorem dX3_copy_35 : decode cX3_copy 35 = .ok (.astore 7, 2) := by decide +kernel
theorem dX3_copy_37 : decode cX3_copy 37 = .ok (.aload 6, 2) := by decide +kernel
theorem dX3_copy_39 : decode cX3_copy 39 = .ok (.invokevirtual 246, 3) := by decide +kernel
theorem dX3_copy_42 : decode cX3_copy 42 = .ok (.ifCond .ne 11, 3) := by decide +kernel
theorem dX3_copy_45 : decode cX3_copy 45 = .ok (.aload 7, 2) := by decide +kernel
theorem dX3_copy_47 : decode cX3_copy 47 = .ok (.invokevirtual 246, 3) := by decide +kernel
theorem dX3_copy_50 : decode cX3_copy 50 = .ok (.ifCond .eq 10, 3) := by decide +kernel
theorem dX3_copy_53 : decode cX3_copy 53 = .ok (.aload_n 0, 1) := by decide +kernel
theorem dX3_copy_54 : decode cX3_copy 54 = .ok (.ldc 230, 2) := by decide +kernel
theorem dX3_copy_56 : decode cX3_copy 56 = .ok (.invokevirtual 53, 3) := by decide +kernel
theorem dX3_copy_59 : decode cX3_copy 59 = .ok (.ireturn, 1) := by decide +kernel
theorem dX3_copy_60 : decode cX3_copy 60 = .ok (.aload 6, 2) := by decide +kernel
theorem dX3_copy_62 : decode cX3_copy 62 = .ok (.getfield 250, 3) := by decide +kernel
theorem dX3_copy_65 : decode cX3_copy 65 = .ok (.aload 7, 2) := by decide +kernel
theorem dX3_copy_67 : decode cX3_copy 67 = .ok (.getfield 250, 3) := by decide +kernel
theorem dX3_copy_70 : decode cX3_copy 70 = .ok (.if_icmp .eq 10, 3) := by decide +kernel
theorem dX3_copy_73 : decode cX3_copy 73 = .ok (.aload_n 0, 1) := by decide +kernel
theorem dX3_copy_74 : decode cX3_copy 74 = .ok (.ldc 234, 2) := by decide +kernel
theorem dX3_copy_76 : decode cX3_copy 76 = .ok (.invokevirtual 53, 3) := by decide +kernel
theorem dX3_copy_79 : decode cX3_copy 79 = .ok (.ireturn, 1) := by decide +kernel
theorem dX3_copy_80 : decode cX3_copy 80 = .ok (.aload 6, 2) := by decide +kernel
theorem dX3_copy_82 : decode cX3_copy 82 = .ok (.iload_n 2, 1) := by decide +kernel
theorem dX3_copy_83 : decode cX3_copy 83 = .ok (.iload 5, 2) := by decide +kernel
theorem dX3_copy_85 : decode cX3_copy 85 = .ok (.invokevirtual 253, 3) := by decide +kernel
theorem dX3_copy_88 : decode cX3_copy 88 = .ok (.ifCond .eq 15, 3) := by decide +kernel
theorem dX3_copy_91 : decode cX3_copy 91 = .ok (.aload 7, 2) := by decide +kernel
theorem dX3_copy_93 : decode cX3_copy 93 = .ok (.iload 4, 2) := by decide +kernel
theorem dX3_copy_95 : decode cX3_copy 95 = .ok (.iload 5, 2) := by decide +kernel
theorem dX3_copy_97 : decode cX3_copy 97 = .ok (.invokevirtual 253, 3) := by decide +kernel
theorem dX3_copy_100 : decode cX3_copy 100 = .ok (.ifCond .ne 10, 3) := by decide +kernel
theorem dX3_copy_103 : decode cX3_copy 103 = .ok (.aload_n 0, 1) := by decide +kernel
theorem dX3_copy_104 : decode cX3_copy 104 = .ok (.ldc 52, 2) := by decide +kernel
theorem dX3_copy_106 : decode cX3_copy 106 = .ok (.invokevirtual 53, 3) := by decide +kernel
theorem dX3_copy_109 : decode cX3_copy 109 = .ok (.ireturn, 1) := by decide +kernel
theorem dX3_copy_110 : decode cX3_copy 110 = .ok (.aload 6, 2) := by decide +kernel
theorem dX3_copy_112 : decode cX3_copy 112 = .ok (.getfield 256, 3) := by decide +kernel
theorem dX3_copy_115 : decode cX3_copy 115 = .ok (.iload_n 2, 1) := by decide +kernel
theorem dX3_copy_116 : decode cX3_copy 116 = .ok (.aload 7, 2) := by decide +kernel
theorem dX3_copy_118 : decode cX3_copy 118 = .ok (.getfield 256, 3) := by decide +kernel
theorem dX3_copy_121 : decode cX3_copy 121 = .ok (.iload 4, 2) := by decide +kernel
theorem dX3_copy_123 : decode cX3_copy 123 = .ok (.iload 5, 2) := by decide +kernel
theorem dX3_copy_125 : decode cX3_copy 125 = .ok (.invokestatic 259, 3) := by decide +kernel
theorem dX3_copy_128 : decode cX3_copy 128 = .ok (.iload 5, 2) := by decide +kernel
theorem dX3_copy_130 : decode cX3_copy 130 = .ok (.ireturn, 1) := by decide +kernel
theorem dX3_load_0 : decode cX3_load 0 = .ok (.aload_n 0, 1) := by decide +kernel
theorem dX3_load_1 : decode cX3_load 1 = .ok (.iload_n 1, 1) := by decide +kernel
theorem dX3_load_2 : decode cX3_load 2 = .ok (.invokevirtual 193, 3) := by decide +kernel
theorem dX3_load_5 : decode cX3_load 5 = .ok (.istore_n 2, 1) := by decide +kernel
theorem dX3_load_6 : decode cX3_load 6 = .ok (.iload_n 2, 1) := by decide +kernel
theorem dX3_load_7 : decode cX3_load 7 = .ok (.ifCond .eq 9, 3) := by decide +kernel
theorem dX3_load_10 : decode cX3_load 10 = .ok (.aload_n 0, 1) := by decide +kernel
theorem dX3_load_11 : decode cX3_load 11 = .ok (.iload_n 2, 1) := by decide +kernel
theorem dX3_load_12 : decode cX3_load 12 = .ok (.invokevirtual 53, 3) := by decide +kernel
theorem dX3_load_15 : decode cX3_load 15 = .ok (.ireturn, 1) := by decide +kernel
theorem dX3_load_16 : decode cX3_load 16 = .ok (.aload_n 0, 1) := by decide +kernel
theorem dX3_load_17 : decode cX3_load 17 = .ok (.getfield 31, 3) := by decide +kernel
theorem dX3_load_20 : decode cX3_load 20 = .ok (.iload_n 1, 1) := by decide +kernel
theorem dX3_load_21 : decode cX3_load 21 = .ok (.aaload, 1) := by decide +kernel
theorem dX3_load_22 : decode cX3_load 22 = .ok (.getfield 242, 3) := by decide +kernel
theorem dX3_load_25 : decode cX3_load 25 = .ok (.aload_n 0, 1) := by decide +kernel
theorem dX3_load_26 : decode cX3_load 26 = .ok (.getfield 12, 3) := by decide +kernel
theorem dX3_load_29 : decode cX3_load 29 = .ok (.getfield 82, 3) := by decide +kernel
theorem dX3_load_32 : decode cX3_load 32 = .ok (.invokestatic 265, 3) := by decide +kernel
theorem dX3_load_35 : decode cX3_load 35 = .ok (.istore_n 3, 1) := by decide +kernel
theorem dX3_load_36 : decode cX3_load 36 = .ok (.iconst 0, 1) := by decide +kernel
theorem dX3_load_37 : decode cX3_load 37 = .ok (.istore 4, 2) := by decide +kernel
theorem dX3_load_39 : decode cX3_load 39 = .ok (.iload 4, 2) := by decide +kernel
theorem dX3_load_41 : decode cX3_load 41 = .ok (.iload_n 3, 1) := by decide +kernel
theorem dX3_load_42 : decode cX3_load 42 = .ok (.if_icmp .ge 46, 3) := by decide +kernel
theorem dX3_load_45 : decode cX3_load 45 = .ok (.aload_n 0, 1) := by decide +kernel
theorem dX3_load_46 : decode cX3_load 46 = .ok (.getfield 31, 3) := by decide +kernel
theorem dX3_load_49 : decode cX3_load 49 = .ok (.iload_n 1, 1) := by decide +kernel
theorem dX3_load_50 : decode cX3_load 50 = .ok (.aaload, 1) := by decide +kernel
theorem dX3_load_51 : decode cX3_load 51 = .ok (.getfield 256, 3) := by decide +kernel
theorem dX3_load_54 : decode cX3_load 54 = .ok (.iload 4, 2) := by decide +kernel
theorem dX3_load_56 : decode cX3_load 56 = .ok (.iaload, 1) := by decide +kernel
theorem dX3_load_57 : decode cX3_load 57 = .ok (.istore 5, 2) := by decide +kernel
theorem dX3_load_59 : decode cX3_load 59 = .ok (.iload 5, 2) := by decide +kernel
theorem dX3_load_61 : decode cX3_load 61 = .ok (.invokestatic 79, 3) := by decide +kernel
theorem dX3_load_64 : decode cX3_load 64 = .ok (.ifCond .ne 6, 3) := by decide +kernel
theorem dX3_load_67 : decode cX3_load 67 = .ok (.iload 4, 2) := by decide +kernel
theorem dX3_load_69 : decode cX3_load 69 = .ok (.ireturn, 1) := by decide +kernel
theorem dX3_load_70 : decode cX3_load 70 = .ok (.aload_n 0, 1) := by decide +kernel
theorem dX3_load_71 : decode cX3_load 71 = .ok (.getfield 12, 3) := by decide +kernel
theorem dX3_load_74 : decode cX3_load 74 = .ok (.iload 4, 2) := by decide +kernel
theorem dX3_load_76 : decode cX3_load 76 = .ok (.iconst 0, 1) := by decide +kernel
theorem dX3_load_77 : decode cX3_load 77 = .ok (.iload 5, 2) := by decide +kernel
theorem dX3_load_79 : decode cX3_load 79 = .ok (.invokevirtual 113, 3) := by decide +kernel
theorem dX3_load_82 : decode cX3_load 82 = .ok (.iinc 4 1, 3) := by decide +kernel
theorem dX3_load_85 : decode cX3_load 85 = .ok (.goto (-46), 3) := by decide +kernel
theorem dX3_load_88 : decode cX3_load 88 = .ok (.iload_n 3, 1) := by decide +kernel
theorem dX3_load_89 : decode cX3_load 89 = .ok (.ireturn, 1) := by decide +kernel
theorem dX3_judge_0 : decode cX3_judge 0 = .ok (.aload_n 0, 1) := by decide +kernel
theorem dX3_judge_1 : decode cX3_judge 1 = .ok (.iload_n 1, 1) := by decide +kernel
theorem dX3_judge_2 : decode cX3_judge 2 = .ok (.invokevirtual 193, 3) := by decide +kernel
theorem dX3_judge_5 : decode cX3_judge 5 = .ok (.istore_n 2, 1) := by decide +kernel
theorem dX3_judge_6 : decode cX3_judge 6 = .ok (.iload_n 2, 1) := by decide +kernel
theorem dX3_judge_7 : decode cX3_judge 7 = .ok (.ifCond .eq 9, 3) := by decide +kernel
theorem dX3_judge_10 : decode cX3_judge 10 = .ok (.aload_n 0, 1) := by decide +kernel
theorem dX3_judge_11 : decode cX3_judge 11 = .ok (.iload_n 2, 1) := by decide +kernel
theorem dX3_judge_12 : decode cX3_judge 12 = .ok (.invokevirtual 53, 3) := by decide +kernel
theorem dX3_judge_15 : decode cX3_judge 15 = .ok (.ireturn, 1) := by decide +kernel
theorem dX3_judge_16 : decode cX3_judge 16 = .ok (.iconst 0, 1) := by decide +kernel
theorem dX3_judge_17 : decode cX3_judge 17 = .ok (.istore_n 3, 1) := by decide +kernel
theorem dX3_judge_18 : decode cX3_judge 18 = .ok (.iload_n 3, 1) := by decide +kernel
theorem dX3_judge_19 : decode cX3_judge 19 = .ok (.aload_n 0, 1) := by decide +kernel
theorem dX3_judge_20 : decode cX3_judge 20 = .ok (.getfield 31, 3) := by decide +kernel
theorem dX3_judge_23 : decode cX3_judge 23 = .ok (.iload_n 1, 1) := by decide +kernel
theorem dX3_judge_24 : decode cX3_judge 24 = .ok (.aaload, 1) := by decide +kernel
theorem dX3_judge_25 : decode cX3_judge 25 = .ok (.getfield 242, 3) := by decide +kernel
theorem dX3_judge_28 : decode cX3_judge 28 = .ok (.if_icmp .ge 47, 3) := by decide +kernel
theorem dX3_judge_31 : decode cX3_judge 31 = .ok (.aload_n 0, 1) := by decide +kernel
theorem dX3_judge_32 : decode cX3_judge 32 = .ok (.getfield 12, 3) := by decide +kernel
theorem dX3_judge_35 : decode cX3_judge 35 = .ok (.iload_n 3, 1) := by decide +kernel
theorem dX3_judge_36 : decode cX3_judge 36 = .ok (.invokevirtual 101, 3) := by decide +kernel
theorem dX3_judge_39 : decode cX3_judge 39 = .ok (.ifCond .eq 26, 3) := by decide +kernel
theorem dX3_judge_42 : decode cX3_judge 42 = .ok (.aload_n 0, 1) := by decide +kernel
theorem dX3_judge_43 : decode cX3_judge 43 = .ok (.getfield 12, 3) := by decide +kernel
theorem dX3_judge_46 : decode cX3_judge 46 = .ok (.iload_n 3, 1) := by decide +kernel
theorem dX3_judge_47 : decode cX3_judge 47 = .ok (.iconst 1, 1) := by decide +kernel
theorem dX3_judge_48 : decode cX3_judge 48 = .ok (.invokevirtual 107, 3) := by decide +kernel
theorem dX3_judge_51 : decode cX3_judge 51 = .ok (.aload_n 0, 1) := by decide +kernel
theorem dX3_judge_52 : decode cX3_judge 52 = .ok (.getfield 31, 3) := by decide +kernel
theorem dX3_judge_55 : decode cX3_judge 55 = .ok (.iload_n 1, 1) := by decide +kernel
theorem dX3_judge_56 : decode cX3_judge 56 = .ok (.aaload, 1) := by decide +kernel
theorem dX3_judge_57 : decode cX3_judge 57 = .ok (.getfield 256, 3) := by decide +kernel
theorem dX3_judge_60 : decode cX3_judge 60 = .ok (.iload_n 3, 1) := by decide +kernel
theorem dX3_judge_61 : decode cX3_judge 61 = .ok (.iaload, 1) := by decide +kernel
theorem dX3_judge_62 : decode cX3_judge 62 = .ok (.if_icmp .eq 7, 3) := by decide +kernel
theorem dX3_judge_65 : decode cX3_judge 65 = .ok (.iconst 1, 1) := by decide +kernel
theorem dX3_judge_66 : decode cX3_judge 66 = .ok (.iload_n 3, 1) := by decide +kernel
theorem dX3_judge_67 : decode cX3_judge 67 = .ok (.iadd, 1) := by decide +kernel
theorem dX3_judge_68 : decode cX3_judge 68 = .ok (.ireturn, 1) := by decide +kernel
theorem dX3_judge_69 : decode cX3_judge 69 = .ok (.iinc 3 1, 3) := by decide +kernel
theorem dX3_judge_72 : decode cX3_judge 72 = .ok (.goto (-54), 3) := by decide +kernel
theorem dX3_judge_75 : decode cX3_judge 75 = .ok (.iconst 0, 1) := by decide +kernel
theorem dX3_judge_76 : decode cX3_judge 76 = .ok (.ireturn, 1) := by decide +kernel
theorem dX3_image_0 : decode cX3_image 0 = .ok (.aload_n 0, 1) := by decide +kernel
theorem dX3_image_1 : decode cX3_image 1 = .ok (.getfield 16, 3) := by decide +kernel
theorem dX3_image_4 : decode cX3_image 4 = .ok (.aload_n 0, 1) := by decide +kernel
theorem dX3_image_5 : decode cX3_image 5 = .ok (.getfield 12, 3) := by decide +kernel
theorem dX3_image_8 : decode cX3_image 8 = .ok (.invokevirtual 169, 3) := by decide +kernel
theorem dX3_image_11 : decode cX3_image 11 = .ok (.aload_n 0, 1) := by decide +kernel
theorem dX3_image_12 : decode cX3_image 12 = .ok (.iconst 1, 1) := by decide +kernel
theorem dX3_image_13 : decode cX3_image 13 = .ok (.putfield 40, 3) := by decide +kernel
theorem dX3_image_16 : decode cX3_image 16 = .ok (.iconst 1, 1) := by decide +kernel
theorem dX3_image_17 : decode cX3_image 17 = .ok (.ireturn, 1) := by decide +kernel
theorem dX3_undo_0 : decode cX3_undo 0 = .ok (.aload_n 0, 1) := by decide +kernel
theorem dX3_undo_1 : decode cX3_undo 1 = .ok (.getfield 40, 3) := by decide +kernel
theorem dX3_undo_4 : decode cX3_undo 4 = .ok (.ifCond .ne 10, 3) := by decide +kernel
theorem dX3_undo_7 : decode cX3_undo 7 = .ok (.aload_n 0, 1) := by decide +kernel
theorem dX3_undo_8 : decode cX3_undo 8 = .ok (.ldc 176, 2) := by decide +kernel
theorem dX3_undo_10 : decode cX3_undo 10 = .ok (.invokevirtual 53, 3) := by decide +kernel
theorem dX3_undo_13 : decode cX3_undo 13 = .ok (.ireturn, 1) := by decide +kernel
theorem dX3_undo_14 : decode cX3_undo 14 = .ok (.aload_n 0, 1) := by decide +kernel
theorem dX3_undo_15 : decode cX3_undo 15 = .ok (.getfield 12, 3) := by decide +kernel
theorem dX3_undo_18 : decode cX3_undo 18 = .ok (.aload_n 0, 1) := by decide +kernel
theorem dX3_undo_19 : decode cX3_undo 19 = .ok (.getfield 16, 3) := by decide +kernel
theorem dX3_undo_22 : decode cX3_undo 22 = .ok (.invokevirtual 169, 3) := by decide +kernel
theorem dX3_undo_25 : decode cX3_undo 25 = .ok (.aload_n 0, 1) := by decide +kernel
theorem dX3_undo_26 : decode cX3_undo 26 = .ok (.getfield 12, 3) := by decide +kernel
theorem dX3_undo_29 : decode cX3_undo 29 = .ok (.getfield 139, 3) := by decide +kernel
theorem dX3_undo_32 : decode cX3_undo 32 = .ok (.ireturn, 1) := by decide +kernel
theorem dX3_tear_0 : decode cX3_tear 0 = .ok (.aload_n 0, 1) := by decide +kernel
theorem dX3_tear_1 : decode cX3_tear 1 = .ok (.getfield 40, 3) := by decide +kernel
theorem dX3_tear_4 : decode cX3_tear 4 = .ok (.ifCond .eq 7, 3) := by decide +kernel
theorem dX3_tear_7 : decode cX3_tear 7 = .ok (.iconst 1, 1) := by decide +kernel
theorem dX3_tear_8 : decode cX3_tear 8 = .ok (.goto 4, 3) := by decide +kernel
theorem dX3_tear_11 : decode cX3_tear 11 = .ok (.iconst 0, 1) := by decide +kernel
theorem dX3_tear_12 : decode cX3_tear 12 = .ok (.istore_n 1, 1) := by decide +kernel
theorem dX3_tear_13 : decode cX3_tear 13 = .ok (.aload_n 0, 1) := by decide +kernel
theorem dX3_tear_14 : decode cX3_tear 14 = .ok (.iconst 0, 1) := by decide +kernel
theorem dX3_tear_15 : decode cX3_tear 15 = .ok (.putfield 40, 3) := by decide +kernel
theorem dX3_tear_18 : decode cX3_tear 18 = .ok (.iload_n 1, 1) := by decide +kernel
theorem dX3_tear_19 : decode cX3_tear 19 = .ok (.ireturn, 1) := by decide +kernel
theorem dX3_count_0 : decode cX3_count 0 = .ok (.iload_n 1, 1) := by decide +kernel
theorem dX3_count_1 : decode cX3_count 1 = .ok (.tableswitch 111 0 7 #[47, 55, 63, 71, 79, 87, 95, 103], 47) := by decide +kernel
theorem dX3_count_48 : decode cX3_count 48 = .ok (.aload_n 0, 1) := by decide +kernel
theorem dX3_count_49 : decode cX3_count 49 = .ok (.getfield 12, 3) := by decide +kernel
theorem dX3_count_52 : decode cX3_count 52 = .ok (.getfield 139, 3) := by decide +kernel
theorem dX3_count_55 : decode cX3_count 55 = .ok (.ireturn, 1) := by decide +kernel
theorem dX3_count_56 : decode cX3_count 56 = .ok (.aload_n 0, 1) := by decide +kernel
theorem dX3_count_57 : decode cX3_count 57 = .ok (.getfield 12, 3) := by decide +kernel
theorem dX3_count_60 : decode cX3_count 60 = .ok (.getfield 70, 3) := by decide +kernel
theorem dX3_count_63 : decode cX3_count 63 = .ok (.ireturn, 1) := by decide +kernel
theorem dX3_count_64 : decode cX3_count 64 = .ok (.aload_n 0, 1) := by decide +kernel
theorem dX3_count_65 : decode cX3_count 65 = .ok (.getfield 12, 3) := by decide +kernel
theorem dX3_count_68 : decode cX3_count 68 = .ok (.getfield 82, 3) := by decide +kernel
theorem dX3_count_71 : decode cX3_count 71 = .ok (.ireturn, 1) := by decide +kernel
theorem dX3_count_72 : decode cX3_count 72 = .ok (.aload_n 0, 1) := by decide +kernel
theorem dX3_count_73 : decode cX3_count 73 = .ok (.getfield 12, 3) := by decide +kernel
theorem dX3_count_76 : decode cX3_count 76 = .ok (.invokevirtual 147, 3) := by decide +kernel
theorem dX3_count_79 : decode cX3_count 79 = .ok (.ireturn, 1) := by decide +kernel
theorem dX3_count_80 : decode cX3_count 80 = .ok (.aload_n 0, 1) := by decide +kernel
theorem dX3_count_81 : decode cX3_count 81 = .ok (.getfield 12, 3) := by decide +kernel
theorem dX3_count_84 : decode cX3_count 84 = .ok (.invokevirtual 157, 3) := by decide +kernel
theorem dX3_count_87 : decode cX3_count 87 = .ok (.ireturn, 1) := by decide +kernel
theorem dX3_count_88 : decode cX3_count 88 = .ok (.aload_n 0, 1) := by decide +kernel
theorem dX3_count_89 : decode cX3_count 89 = .ok (.getfield 25, 3) := by decide +kernel
theorem dX3_count_92 : decode cX3_count 92 = .ok (.getfield 213, 3) := by decide +kernel
theorem dX3_count_95 : decode cX3_count 95 = .ok (.ireturn, 1) := by decide +kernel
theorem dX3_count_96 : decode cX3_count 96 = .ok (.aload_n 0, 1) := by decide +kernel
theorem dX3_count_97 : decode cX3_count 97 = .ok (.getfield 12, 3) := by decide +kernel
theorem dX3_count_100 : decode cX3_count 100 = .ok (.getfield 210, 3) := by decide +kernel
theorem dX3_count_103 : decode cX3_count 103 = .ok (.ireturn, 1) := by decide +kernel
theorem dX3_count_104 : decode cX3_count 104 = .ok (.aload_n 0, 1) := by decide +kernel
theorem dX3_count_105 : decode cX3_count 105 = .ok (.getfield 12, 3) := by decide +kernel
theorem dX3_count_108 : decode cX3_count 108 = .ok (.invokevirtual 270, 3) := by decide +kernel
theorem dX3_count_111 : decode cX3_count 111 = .ok (.ireturn, 1) := by decide +kernel
theorem dX3_count_112 : decode cX3_count 112 = .ok (.aload_n 0, 1) := by decide +kernel
theorem dX3_count_113 : decode cX3_count 113 = .ok (.ldc 52, 2) := by decide +kernel
theorem dX3_count_115 : decode cX3_count 115 = .ok (.invokevirtual 53, 3) := by decide +kernel
theorem dX3_count_118 : decode cX3_count 118 = .ok (.ireturn, 1) := by decide +kernel
theorem dX3_status_0 : decode cX3_status 0 = .ok (.iload_n 1, 1) := by decide +kernel
theorem dX3_status_1 : decode cX3_status 1 = .ok (.iconst (-1), 1) := by decide +kernel
theorem dX3_status_2 : decode cX3_status 2 = .ok (.if_icmp .ne 30, 3) := by decide +kernel
theorem dX3_status_5 : decode cX3_status 5 = .ok (.iconst 0, 1) := by decide +kernel
theorem dX3_status_6 : decode cX3_status 6 = .ok (.istore_n 2, 1) := by decide +kernel
theorem dX3_status_7 : decode cX3_status 7 = .ok (.iconst 0, 1) := by decide +kernel
theorem dX3_status_8 : decode cX3_status 8 = .ok (.istore_n 3, 1) := by decide +kernel
theorem dX3_status_9 : decode cX3_status 9 = .ok (.iload_n 3, 1) := by decide +kernel
theorem dX3_status_10 : decode cX3_status 10 = .ok (.bipush 7, 2) := by decide +kernel
theorem dX3_status_12 : decode cX3_status 12 = .ok (.if_icmp .ge 18, 3) := by decide +kernel
theorem dX3_status_15 : decode cX3_status 15 = .ok (.iload_n 2, 1) := by decide +kernel
theorem dX3_status_16 : decode cX3_status 16 = .ok (.aload_n 0, 1) := by decide +kernel
theorem dX3_status_17 : decode cX3_status 17 = .ok (.getfield 36, 3) := by decide +kernel
theorem dX3_status_20 : decode cX3_status 20 = .ok (.iload_n 3, 1) := by decide +kernel
theorem dX3_status_21 : decode cX3_status 21 = .ok (.iaload, 1) := by decide +kernel
theorem dX3_status_22 : decode cX3_status 22 = .ok (.iadd, 1) := by decide +kernel
theorem dX3_status_23 : decode cX3_status 23 = .ok (.istore_n 2, 1) := by decide +kernel
theorem dX3_status_24 : decode cX3_status 24 = .ok (.iinc 3 1, 3) := by decide +kernel
theorem dX3_status_27 : decode cX3_status 27 = .ok (.goto (-18), 3) := by decide +kernel
theorem dX3_status_30 : decode cX3_status 30 = .ok (.iload_n 2, 1) := by decide +kernel
theorem dX3_status_31 : decode cX3_status 31 = .ok (.ireturn, 1) := by decide +kernel
theorem dX3_status_32 : decode cX3_status 32 = .ok (.iload_n 1, 1) := by decide +kernel
theorem dX3_status_33 : decode cX3_status 33 = .ok (.iconst 0, 1) := by decide +kernel
theorem dX3_status_34 : decode cX3_status 34 = .ok (.bipush 6, 2) := by decide +kernel
theorem dX3_status_36 : decode cX3_status 36 = .ok (.invokestatic 48, 3) := by decide +kernel
theorem dX3_status_39 : decode cX3_status 39 = .ok (.ifCond .ne 10, 3) := by decide +kernel
theorem dX3_status_42 : decode cX3_status 42 = .ok (.aload_n 0, 1) := by decide +kernel
theorem dX3_status_43 : decode cX3_status 43 = .ok (.ldc 52, 2) := by decide +kernel
theorem dX3_status_45 : decode cX3_status 45 = .ok (.invokevirtual 53, 3) := by decide +kernel
theorem dX3_status_48 : decode cX3_status 48 = .ok (.ireturn, 1) := by decide +kernel
theorem dX3_status_49 : decode cX3_status 49 = .ok (.aload_n 0, 1) := by decide +kernel
theorem dX3_status_50 : decode cX3_status 50 = .ok (.getfield 36, 3) := by decide +kernel
theorem dX3_status_53 : decode cX3_status 53 = .ok (.iload_n 1, 1) := by decide +kernel
theorem dX3_status_54 : decode cX3_status 54 = .ok (.iaload, 1) := by decide +kernel
theorem dX3_status_55 : decode cX3_status 55 = .ok (.ireturn, 1) := by decide +kernel
theorem dX3_found_0 : decode cX3_found 0 = .ok (.ldc 52, 2) := by decide +kernel
theorem dX3_found_2 : decode cX3_found 2 = .ok (.iload_n 1, 1) := by decide +kernel
theorem dX3_found_3 : decode cX3_found 3 = .ok (.isub, 1) := by decide +kernel
theorem dX3_found_4 : decode cX3_found 4 = .ok (.istore_n 2, 1) := by decide +kernel
theorem dX3_found_5 : decode cX3_found 5 = .ok (.iload_n 2, 1) := by decide +kernel
theorem dX3_found_6 : decode cX3_found 6 = .ok (.iconst 0, 1) := by decide +kernel
theorem dX3_found_7 : decode cX3_found 7 = .ok (.bipush 6, 2) := by decide +kernel
theorem dX3_found_9 : decode cX3_found 9 = .ok (.invokestatic 48, 3) := by decide +kernel
theorem dX3_found_12 : decode cX3_found 12 = .ok (.ifCond .eq 13, 3) := by decide +kernel
theorem dX3_found_15 : decode cX3_found 15 = .ok (.aload_n 0, 1) := by decide +kernel
theorem dX3_found_16 : decode cX3_found 16 = .ok (.getfield 36, 3) := by decide +kernel
theorem dX3_found_19 : decode cX3_found 19 = .ok (.iload_n 2, 1) := by decide +kernel
theorem dX3_found_20 : decode cX3_found 20 = .ok (.dup2, 1) := by decide +kernel
theorem dX3_found_21 : decode cX3_found 21 = .ok (.iaload, 1) := by decide +kernel
theorem dX3_found_22 : decode cX3_found 22 = .ok (.iconst 1, 1) := by decide +kernel
theorem dX3_found_23 : decode cX3_found 23 = .ok (.iadd, 1) := by decide +kernel
theorem dX3_found_24 : decode cX3_found 24 = .ok (.iastore, 1) := by decide +kernel
theorem dX3_found_25 : decode cX3_found 25 = .ok (.iload_n 1, 1) := by decide +kernel
theorem dX3_found_26 : decode cX3_found 26 = .ok (.ireturn, 1) := by decide +kernel
theorem dX3_sheetTrouble_0 : decode cX3_sheetTrouble 0 = .ok (.iload_n 1, 1) := by decide +kernel
theorem dX3_sheetTrouble_1 : decode cX3_sheetTrouble 1 = .ok (.invokestatic 235, 3) := by decide +kernel
theorem dX3_sheetTrouble_4 : decode cX3_sheetTrouble 4 = .ok (.ifCond .ne 6, 3) := by decide +kernel
theorem dX3_sheetTrouble_7 : decode cX3_sheetTrouble 7 = .ok (.ldc 52, 2) := by decide +kernel
theorem dX3_sheetTrouble_9 : decode cX3_sheetTrouble 9 = .ok (.ireturn, 1) := by decide +kernel
theorem dX3_sheetTrouble_10 : decode cX3_sheetTrouble 10 = .ok (.aload_n 0, 1) := by decide +kernel
theorem dX3_sheetTrouble_11 : decode cX3_sheetTrouble 11 = .ok (.getfield 31, 3) := by decide +kernel
theorem dX3_sheetTrouble_14 : decode cX3_sheetTrouble 14 = .ok (.iload_n 1, 1) := by decide +kernel
theorem dX3_sheetTrouble_15 : decode cX3_sheetTrouble 15 = .ok (.aaload, 1) := by decide +kernel
theorem dX3_sheetTrouble_16 : decode cX3_sheetTrouble 16 = .ok (.invokevirtual 246, 3) := by decide +kernel
theorem dX3_sheetTrouble_19 : decode cX3_sheetTrouble 19 = .ok (.ifCond .eq 8, 3) := by decide +kernel
theorem dX3_sheetTrouble_22 : decode cX3_sheetTrouble 22 = .ok (.ldc 230, 2) := by decide +kernel
theorem dX3_sheetTrouble_24 : decode cX3_sheetTrouble 24 = .ok (.goto 4, 3) := by decide +kernel
theorem dX3_sheetTrouble_27 : decode cX3_sheetTrouble 27 = .ok (.iconst 0, 1) := by decide +kernel
theorem dX3_sheetTrouble_28 : decode cX3_sheetTrouble 28 = .ok (.ireturn, 1) := by decide +kernel
theorem dX3_leadsTo_0 : decode cX3_leadsTo 0 = .ok (.iload_n 3, 1) := by decide +kernel
theorem dX3_leadsTo_1 : decode cX3_leadsTo 1 = .ok (.iconst 1, 1) := by decide +kernel
theorem dX3_leadsTo_2 : decode cX3_leadsTo 2 = .ok (.if_icmp .lt 8, 3) := by decide +kernel
theorem dX3_leadsTo_5 : decode cX3_leadsTo 5 = .ok (.iload_n 3, 1) := by decide +kernel
theorem dX3_leadsTo_6 : decode cX3_leadsTo 6 = .ok (.iconst 4, 1) := by decide +kernel
theorem dX3_leadsTo_7 : decode cX3_leadsTo 7 = .ok (.if_icmp .le 5, 3) := by decide +kernel
theorem dX3_leadsTo_10 : decode cX3_leadsTo 10 = .ok (.iconst 0, 1) := by decide +kernel
theorem dX3_leadsTo_11 : decode cX3_leadsTo 11 = .ok (.ireturn, 1) := by decide +kernel
theorem dX3_leadsTo_12 : decode cX3_leadsTo 12 = .ok (.iconst 0, 1) := by decide +kernel
theorem dX3_leadsTo_13 : decode cX3_leadsTo 13 = .ok (.istore 4, 2) := by decide +kernel
theorem dX3_leadsTo_15 : decode cX3_leadsTo 15 = .ok (.iload 4, 2) := by decide +kernel
theorem dX3_leadsTo_17 : decode cX3_leadsTo 17 = .ok (.aload_n 0, 1) := by decide +kernel
theorem dX3_leadsTo_18 : decode cX3_leadsTo 18 = .ok (.getfield 19, 3) := by decide +kernel
theorem dX3_leadsTo_21 : decode cX3_leadsTo 21 = .ok (.getfield 70, 3) := by decide +kernel
theorem dX3_leadsTo_24 : decode cX3_leadsTo 24 = .ok (.if_icmp .ge 35, 3) := by decide +kernel
theorem dX3_leadsTo_27 : decode cX3_leadsTo 27 = .ok (.aload_n 0, 1) := by decide +kernel
theorem dX3_leadsTo_28 : decode cX3_leadsTo 28 = .ok (.getfield 19, 3) := by decide +kernel
theorem dX3_leadsTo_31 : decode cX3_leadsTo 31 = .ok (.iload 4, 2) := by decide +kernel
theorem dX3_leadsTo_33 : decode cX3_leadsTo 33 = .ok (.invokevirtual 131, 3) := by decide +kernel
theorem dX3_leadsTo_36 : decode cX3_leadsTo 36 = .ok (.ifCond .ne 17, 3) := by decide +kernel
theorem dX3_leadsTo_39 : decode cX3_leadsTo 39 = .ok (.aload_n 0, 1) := by decide +kernel
theorem dX3_leadsTo_40 : decode cX3_leadsTo 40 = .ok (.iload 4, 2) := by decide +kernel
theorem dX3_leadsTo_42 : decode cX3_leadsTo 42 = .ok (.iload_n 1, 1) := by decide +kernel
theorem dX3_leadsTo_43 : decode cX3_leadsTo 43 = .ok (.iload_n 2, 1) := by decide +kernel
theorem dX3_leadsTo_44 : decode cX3_leadsTo 44 = .ok (.iload_n 3, 1) := by decide +kernel
theorem dX3_leadsTo_45 : decode cX3_leadsTo 45 = .ok (.invokevirtual 273, 3) := by decide +kernel
theorem dX3_leadsTo_48 : decode cX3_leadsTo 48 = .ok (.ifCond .eq 5, 3) := by decide +kernel
theorem dX3_leadsTo_51 : decode cX3_leadsTo 51 = .ok (.iconst 1, 1) := by decide +kernel
theorem dX3_leadsTo_52 : decode cX3_leadsTo 52 = .ok (.ireturn, 1) := by decide +kernel
theorem dX3_leadsTo_53 : decode cX3_leadsTo 53 = .ok (.iinc 4 1, 3) := by decide +kernel
theorem dX3_leadsTo_56 : decode cX3_leadsTo 56 = .ok (.goto (-41), 3) := by decide +kernel
theorem dX3_leadsTo_59 : decode cX3_leadsTo 59 = .ok (.iconst 0, 1) := by decide +kernel
theorem dX3_leadsTo_60 : decode cX3_leadsTo 60 = .ok (.ireturn, 1) := by decide +kernel
theorem dX3_leadsToBy_0 : decode cX3_leadsToBy 0 = .ok (.aload_n 0, 1) := by decide +kernel
theorem dX3_leadsToBy_1 : decode cX3_leadsToBy 1 = .ok (.getfield 19, 3) := by decide +kernel
theorem dX3_leadsToBy_4 : decode cX3_leadsToBy 4 = .ok (.iload_n 2, 1) := by decide +kernel
theorem dX3_leadsToBy_5 : decode cX3_leadsToBy 5 = .ok (.iload_n 1, 1) := by decide +kernel
theorem dX3_leadsToBy_6 : decode cX3_leadsToBy 6 = .ok (.invokevirtual 116, 3) := by decide +kernel
theorem dX3_leadsToBy_9 : decode cX3_leadsToBy 9 = .ok (.istore 5, 2) := by decide +kernel
theorem dX3_leadsToBy_11 : decode cX3_leadsToBy 11 = .ok (.iload 4, 2) := by decide +kernel
theorem dX3_leadsToBy_13 : decode cX3_leadsToBy 13 = .ok (.iconst 1, 1) := by decide +kernel
theorem dX3_leadsToBy_14 : decode cX3_leadsToBy 14 = .ok (.if_icmp .ne 23, 3) := by decide +kernel
theorem dX3_leadsToBy_17 : decode cX3_leadsToBy 17 = .ok (.aload_n 0, 1) := by decide +kernel
theorem dX3_leadsToBy_18 : decode cX3_leadsToBy 18 = .ok (.getfield 19, 3) := by decide +kernel
theorem dX3_leadsToBy_21 : decode cX3_leadsToBy 21 = .ok (.iload_n 1, 1) := by decide +kernel
theorem dX3_leadsToBy_22 : decode cX3_leadsToBy 22 = .ok (.iload 5, 2) := by decide +kernel
theorem dX3_leadsToBy_24 : decode cX3_leadsToBy 24 = .ok (.invokevirtual 128, 3) := by decide +kernel
theorem dX3_leadsToBy_27 : decode cX3_leadsToBy 27 = .ok (.iload_n 3, 1) := by decide +kernel
theorem dX3_leadsToBy_28 : decode cX3_leadsToBy 28 = .ok (.if_icmp .ne 7, 3) := by decide +kernel
theorem dX3_leadsToBy_31 : decode cX3_leadsToBy 31 = .ok (.iconst 1, 1) := by decide +kernel
theorem dX3_leadsToBy_32 : decode cX3_leadsToBy 32 = .ok (.goto 4, 3) := by decide +kernel
theorem dX3_leadsToBy_35 : decode cX3_leadsToBy 35 = .ok (.iconst 0, 1) := by decide +kernel
theorem dX3_leadsToBy_36 : decode cX3_leadsToBy 36 = .ok (.ireturn, 1) := by decide +kernel
theorem dX3_leadsToBy_37 : decode cX3_leadsToBy 37 = .ok (.aload_n 0, 1) := by decide +kernel
theorem dX3_leadsToBy_38 : decode cX3_leadsToBy 38 = .ok (.getfield 19, 3) := by decide +kernel
theorem dX3_leadsToBy_41 : decode cX3_leadsToBy 41 = .ok (.iload_n 2, 1) := by decide +kernel
theorem dX3_leadsToBy_42 : decode cX3_leadsToBy 42 = .ok (.iconst 0, 1) := by decide +kernel
theorem dX3_leadsToBy_43 : decode cX3_leadsToBy 43 = .ok (.invokevirtual 107, 3) := by decide +kernel
theorem dX3_leadsToBy_46 : decode cX3_leadsToBy 46 = .ok (.istore 6, 2) := by decide +kernel
theorem dX3_leadsToBy_48 : decode cX3_leadsToBy 48 = .ok (.aload_n 0, 1) := by decide +kernel
theorem dX3_leadsToBy_49 : decode cX3_leadsToBy 49 = .ok (.getfield 19, 3) := by decide +kernel
theorem dX3_leadsToBy_52 : decode cX3_leadsToBy 52 = .ok (.iload_n 1, 1) := by decide +kernel
theorem dX3_leadsToBy_53 : decode cX3_leadsToBy 53 = .ok (.iconst 4, 1) := by decide +kernel
theorem dX3_leadsToBy_54 : decode cX3_leadsToBy 54 = .ok (.invokevirtual 91, 3) := by decide +kernel
theorem dX3_leadsToBy_57 : decode cX3_leadsToBy 57 = .ok (.istore 7, 2) := by decide +kernel
theorem dX3_leadsToBy_59 : decode cX3_leadsToBy 59 = .ok (.aload_n 0, 1) := by decide +kernel
theorem dX3_leadsToBy_60 : decode cX3_leadsToBy 60 = .ok (.getfield 19, 3) := by decide +kernel
theorem dX3_leadsToBy_63 : decode cX3_leadsToBy 63 = .ok (.iload_n 2, 1) := by decide +kernel
theorem dX3_leadsToBy_64 : decode cX3_leadsToBy 64 = .ok (.aload_n 0, 1) := by decide +kernel
theorem dX3_leadsToBy_65 : decode cX3_leadsToBy 65 = .ok (.getfield 19, 3) := by decide +kernel
theorem dX3_leadsToBy_68 : decode cX3_leadsToBy 68 = .ok (.iload_n 1, 1) := by decide +kernel
theorem dX3_leadsToBy_69 : decode cX3_leadsToBy 69 = .ok (.iconst 0, 1) := by decide +kernel
theorem dX3_leadsToBy_70 : decode cX3_leadsToBy 70 = .ok (.invokevirtual 91, 3) := by decide +kernel
theorem dX3_leadsToBy_73 : decode cX3_leadsToBy 73 = .ok (.iload 5, 2) := by decide +kernel
theorem dX3_leadsToBy_75 : decode cX3_leadsToBy 75 = .ok (.invokestatic 124, 3) := by decide +kernel
theorem dX3_leadsToBy_78 : decode cX3_leadsToBy 78 = .ok (.invokevirtual 276, 3) := by decide +kernel
theorem dX3_leadsToBy_81 : decode cX3_leadsToBy 81 = .ok (.aload_n 0, 1) := by decide +kernel
theorem dX3_leadsToBy_82 : decode cX3_leadsToBy 82 = .ok (.getfield 19, 3) := by decide +kernel
theorem dX3_leadsToBy_85 : decode cX3_leadsToBy 85 = .ok (.iload_n 1, 1) := by decide +kernel
theorem dX3_leadsToBy_86 : decode cX3_leadsToBy 86 = .ok (.invokevirtual 279, 3) := by decide +kernel
theorem dX3_leadsToBy_89 : decode cX3_leadsToBy 89 = .ok (.aload_n 0, 1) := by decide +kernel
theorem dX3_leadsToBy_90 : decode cX3_leadsToBy 90 = .ok (.iload_n 2, 1) := by decide +kernel
theorem dX3_leadsToBy_91 : decode cX3_leadsToBy 91 = .ok (.iload_n 3, 1) := by decide +kernel
theorem dX3_leadsToBy_92 : decode cX3_leadsToBy 92 = .ok (.iload 4, 2) := by decide +kernel
theorem dX3_leadsToBy_94 : decode cX3_leadsToBy 94 = .ok (.iconst 1, 1) := by decide +kernel
theorem dX3_leadsToBy_95 : decode cX3_leadsToBy 95 = .ok (.isub, 1) := by decide +kernel
theorem dX3_leadsToBy_96 : decode cX3_leadsToBy 96 = .ok (.invokevirtual 181, 3) := by decide +kernel
theorem dX3_leadsToBy_99 : decode cX3_leadsToBy 99 = .ok (.istore 8, 2) := by decide +kernel
theorem dX3_leadsToBy_101 : decode cX3_leadsToBy 101 = .ok (.aload_n 0, 1) := by decide +kernel
theorem dX3_leadsToBy_102 : decode cX3_leadsToBy 102 = .ok (.getfield 19, 3) := by decide +kernel
theorem dX3_leadsToBy_105 : decode cX3_leadsToBy 105 = .ok (.iload_n 2, 1) := by decide +kernel
theorem dX3_leadsToBy_106 : decode cX3_leadsToBy 106 = .ok (.iconst 0, 1) := by decide +kernel
theorem dX3_leadsToBy_107 : decode cX3_leadsToBy 107 = .ok (.iload 6, 2) := by decide +kernel
theorem dX3_leadsToBy_109 : decode cX3_leadsToBy 109 = .ok (.invokevirtual 113, 3) := by decide +kernel
theorem dX3_leadsToBy_112 : decode cX3_leadsToBy 112 = .ok (.aload_n 0, 1) := by decide +kernel
theorem dX3_leadsToBy_113 : decode cX3_leadsToBy 113 = .ok (.getfield 19, 3) := by decide +kernel
theorem dX3_leadsToBy_116 : decode cX3_leadsToBy 116 = .ok (.iload_n 1, 1) := by decide +kernel
theorem dX3_leadsToBy_117 : decode cX3_leadsToBy 117 = .ok (.iconst 4, 1) := by decide +kernel
theorem dX3_leadsToBy_118 : decode cX3_leadsToBy 118 = .ok (.iload 7, 2) := by decide +kernel
theorem dX3_leadsToBy_120 : decode cX3_leadsToBy 120 = .ok (.invokevirtual 98, 3) := by decide +kernel
theorem dX3_leadsToBy_123 : decode cX3_leadsToBy 123 = .ok (.iload 8, 2) := by decide +kernel
theorem dX3_leadsToBy_125 : decode cX3_leadsToBy 125 = .ok (.ireturn, 1) := by decide +kernel
theorem dX3_keepsAway_0 : decode cX3_keepsAway 0 = .ok (.aload_n 0, 1) := by decide +kernel
theorem dX3_keepsAway_1 : decode cX3_keepsAway 1 = .ok (.getfield 19, 3) := by decide +kernel
theorem dX3_keepsAway_4 : decode cX3_keepsAway 4 = .ok (.aload_n 0, 1) := by decide +kernel
theorem dX3_keepsAway_5 : decode cX3_keepsAway 5 = .ok (.getfield 12, 3) := by decide +kernel
theorem dX3_keepsAway_8 : decode cX3_keepsAway 8 = .ok (.invokevirtual 169, 3) := by decide +kernel
theorem dX3_keepsAway_11 : decode cX3_keepsAway 11 = .ok (.iconst 0, 1) := by decide +kernel
theorem dX3_keepsAway_12 : decode cX3_keepsAway 12 = .ok (.istore 5, 2) := by decide +kernel
theorem dX3_keepsAway_14 : decode cX3_keepsAway 14 = .ok (.iload 5, 2) := by decide +kernel
theorem dX3_keepsAway_16 : decode cX3_keepsAway 16 = .ok (.aload_n 0, 1) := by decide +kernel
theorem dX3_keepsAway_17 : decode cX3_keepsAway 17 = .ok (.getfield 19, 3) := by decide +kernel
theorem dX3_keepsAway_20 : decode cX3_keepsAway 20 = .ok (.getfield 70, 3) := by decide +kernel
theorem dX3_keepsAway_23 : decode cX3_keepsAway 23 = .ok (.if_icmp .ge 30, 3) := by decide +kernel
theorem dX3_keepsAway_26 : decode cX3_keepsAway 26 = .ok (.iload_n 1, 1) := by decide +kernel
theorem dX3_keepsAway_27 : decode cX3_keepsAway 27 = .ok (.iload 5, 2) := by decide +kernel
theorem dX3_keepsAway_29 : decode cX3_keepsAway 29 = .ok (.ishr, 1) := by decide +kernel
theorem dX3_keepsAway_30 : decode cX3_keepsAway 30 = .ok (.iconst 1, 1) := by decide +kernel
theorem dX3_keepsAway_31 : decode cX3_keepsAway 31 = .ok (.iand, 1) := by decide +kernel
theorem dX3_keepsAway_32 : decode cX3_keepsAway 32 = .ok (.iconst 1, 1) := by decide +kernel
theorem dX3_keepsAway_33 : decode cX3_keepsAway 33 = .ok (.if_icmp .ne 14, 3) := by decide +kernel
theorem dX3_keepsAway_36 : decode cX3_keepsAway 36 = .ok (.aload_n 0, 1) := by decide +kernel
theorem dX3_keepsAway_37 : decode cX3_keepsAway 37 = .ok (.getfield 19, 3) := by decide +kernel
theorem dX3_keepsAway_40 : decode cX3_keepsAway 40 = .ok (.iload 5, 2) := by decide +kernel
theorem dX3_keepsAway_42 : decode cX3_keepsAway 42 = .ok (.iconst 5, 1) := by decide +kernel
theorem dX3_keepsAway_43 : decode cX3_keepsAway 43 = .ok (.iconst 1, 1) := by decide +kernel
theorem dX3_keepsAway_44 : decode cX3_keepsAway 44 = .ok (.invokevirtual 98, 3) := by decide +kernel
theorem dX3_keepsAway_47 : decode cX3_keepsAway 47 = .ok (.iinc 5 1, 3) := by decide +kernel
theorem dX3_keepsAway_50 : decode cX3_keepsAway 50 = .ok (.goto (-36), 3) := by decide +kernel
theorem dX3_keepsAway_53 : decode cX3_keepsAway 53 = .ok (.aload_n 0, 1) := by decide +kernel
theorem dX3_keepsAway_54 : decode cX3_keepsAway 54 = .ok (.getfield 19, 3) := by decide +kernel
theorem dX3_keepsAway_57 : decode cX3_keepsAway 57 = .ok (.iload 4, 2) := by decide +kernel
theorem dX3_keepsAway_59 : decode cX3_keepsAway 59 = .ok (.invokevirtual 143, 3) := by decide +kernel
theorem dX3_keepsAway_62 : decode cX3_keepsAway 62 = .ok (.aload_n 0, 1) := by decide +kernel
theorem dX3_keepsAway_63 : decode cX3_keepsAway 63 = .ok (.getfield 19, 3) := by decide +kernel
theorem dX3_keepsAway_66 : decode cX3_keepsAway 66 = .ok (.iload_n 2, 1) := by decide +kernel
theorem dX3_keepsAway_67 : decode cX3_keepsAway 67 = .ok (.iconst 1, 1) := by decide +kernel
theorem dX3_keepsAway_68 : decode cX3_keepsAway 68 = .ok (.invokevirtual 107, 3) := by decide +kernel
theorem dX3_keepsAway_71 : decode cX3_keepsAway 71 = .ok (.iload_n 3, 1) := by decide +kernel
theorem dX3_keepsAway_72 : decode cX3_keepsAway 72 = .ok (.if_icmp .eq 7, 3) := by decide +kernel
theorem dX3_keepsAway_75 : decode cX3_keepsAway 75 = .ok (.iconst 1, 1) := by decide +kernel
theorem dX3_keepsAway_76 : decode cX3_keepsAway 76 = .ok (.goto 4, 3) := by decide +kernel
theorem dX3_keepsAway_79 : decode cX3_keepsAway 79 = .ok (.iconst 0, 1) := by decide +kernel
theorem dX3_keepsAway_80 : decode cX3_keepsAway 80 = .ok (.ireturn, 1) := by decide +kernel
theorem dX3_goesAsTold_0 : decode cX3_goesAsTold 0 = .ok (.iconst 0, 1) := by decide +kernel
theorem dX3_goesAsTold_1 : decode cX3_goesAsTold 1 = .ok (.istore_n 3, 1) := by decide +kernel
theorem dX3_goesAsTold_2 : decode cX3_goesAsTold 2 = .ok (.iload_n 3, 1) := by decide +kernel
theorem dX3_goesAsTold_3 : decode cX3_goesAsTold 3 = .ok (.aload_n 1, 1) := by decide +kernel
theorem dX3_goesAsTold_4 : decode cX3_goesAsTold 4 = .ok (.getfield 242, 3) := by decide +kernel
theorem dX3_goesAsTold_7 : decode cX3_goesAsTold 7 = .ok (.if_icmp .ge 50, 3) := by decide +kernel
theorem dX3_goesAsTold_10 : decode cX3_goesAsTold 10 = .ok (.iload_n 3, 1) := by decide +kernel
theorem dX3_goesAsTold_11 : decode cX3_goesAsTold 11 = .ok (.ifCond .le 10, 3) := by decide +kernel
theorem dX3_goesAsTold_14 : decode cX3_goesAsTold 14 = .ok (.aload_n 0, 1) := by decide +kernel
theorem dX3_goesAsTold_15 : decode cX3_goesAsTold 15 = .ok (.getfield 19, 3) := by decide +kernel
theorem dX3_goesAsTold_18 : decode cX3_goesAsTold 18 = .ok (.invokevirtual 173, 3) := by decide +kernel
theorem dX3_goesAsTold_21 : decode cX3_goesAsTold 21 = .ok (.aload_n 1, 1) := by decide +kernel
theorem dX3_goesAsTold_22 : decode cX3_goesAsTold 22 = .ok (.getfield 256, 3) := by decide +kernel
theorem dX3_goesAsTold_25 : decode cX3_goesAsTold 25 = .ok (.iload_n 3, 1) := by decide +kernel
theorem dX3_goesAsTold_26 : decode cX3_goesAsTold 26 = .ok (.iaload, 1) := by decide +kernel
theorem dX3_goesAsTold_27 : decode cX3_goesAsTold 27 = .ok (.istore 4, 2) := by decide +kernel
theorem dX3_goesAsTold_29 : decode cX3_goesAsTold 29 = .ok (.iload 4, 2) := by decide +kernel
theorem dX3_goesAsTold_31 : decode cX3_goesAsTold 31 = .ok (.iconst (-1), 1) := by decide +kernel
theorem dX3_goesAsTold_32 : decode cX3_goesAsTold 32 = .ok (.if_icmp .eq 19, 3) := by decide +kernel
theorem dX3_goesAsTold_35 : decode cX3_goesAsTold 35 = .ok (.iload 4, 2) := by decide +kernel
theorem dX3_goesAsTold_37 : decode cX3_goesAsTold 37 = .ok (.aload_n 0, 1) := by decide +kernel
theorem dX3_goesAsTold_38 : decode cX3_goesAsTold 38 = .ok (.getfield 19, 3) := by decide +kernel
theorem dX3_goesAsTold_41 : decode cX3_goesAsTold 41 = .ok (.iload_n 2, 1) := by decide +kernel
theorem dX3_goesAsTold_42 : decode cX3_goesAsTold 42 = .ok (.iconst 1, 1) := by decide +kernel
theorem dX3_goesAsTold_43 : decode cX3_goesAsTold 43 = .ok (.invokevirtual 107, 3) := by decide +kernel
theorem dX3_goesAsTold_46 : decode cX3_goesAsTold 46 = .ok (.if_icmp .eq 5, 3) := by decide +kernel
theorem dX3_goesAsTold_49 : decode cX3_goesAsTold 49 = .ok (.iconst 0, 1) := by decide +kernel
theorem dX3_goesAsTold_50 : decode cX3_goesAsTold 50 = .ok (.ireturn, 1) := by decide +kernel
theorem dX3_goesAsTold_51 : decode cX3_goesAsTold 51 = .ok (.iinc 3 1, 3) := by decide +kernel
theorem dX3_goesAsTold_54 : decode cX3_goesAsTold 54 = .ok (.goto (-52), 3) := by decide +kernel
theorem dX3_goesAsTold_57 : decode cX3_goesAsTold 57 = .ok (.iconst 1, 1) := by decide +kernel
theorem dX3_goesAsTold_58 : decode cX3_goesAsTold 58 = .ok (.ireturn, 1) := by decide +kernel
theorem dX3_sharedWithAllBents_0 : decode cX3_sharedWithAllBents 0 = .ok (.bipush 100, 2) := by decide +kernel
theorem dX3_sharedWithAllBents_2 : decode cX3_sharedWithAllBents 2 = .ok (.istore_n 1, 1) := by decide +kernel
theorem dX3_sharedWithAllBents_3 : decode cX3_sharedWithAllBents 3 = .ok (.iload_n 1, 1) := by decide +kernel
theorem dX3_sharedWithAllBents_4 : decode cX3_sharedWithAllBents 4 = .ok (.iconst 1, 1) := by decide +kernel
theorem dX3_sharedWithAllBents_5 : decode cX3_sharedWithAllBents 5 = .ok (.if_icmp .le 24, 3) := by decide +kernel
theorem dX3_sharedWithAllBents_8 : decode cX3_sharedWithAllBents 8 = .ok (.bipush 100, 2) := by decide +kernel
theorem dX3_sharedWithAllBents_10 : decode cX3_sharedWithAllBents 10 = .ok (.iload_n 1, 1) := by decide +kernel
theorem dX3_sharedWithAllBents_11 : decode cX3_sharedWithAllBents 11 = .ok (.irem, 1) := by decide +kernel
theorem dX3_sharedWithAllBents_12 : decode cX3_sharedWithAllBents 12 = .ok (.ifCond .ne 11, 3) := by decide +kernel
theorem dX3_sharedWithAllBents_15 : decode cX3_sharedWithAllBents 15 = .ok (.iload_n 0, 1) := by decide +kernel
theorem dX3_sharedWithAllBents_16 : decode cX3_sharedWithAllBents 16 = .ok (.iload_n 1, 1) := by decide +kernel
theorem dX3_sharedWithAllBents_17 : decode cX3_sharedWithAllBents 17 = .ok (.irem, 1) := by decide +kernel
theorem dX3_sharedWithAllBents_18 : decode cX3_sharedWithAllBents 18 = .ok (.ifCond .ne 5, 3) := by decide +kernel
theorem dX3_sharedWithAllBents_21 : decode cX3_sharedWithAllBents 21 = .ok (.iload_n 1, 1) := by decide +kernel
theorem dX3_sharedWithAllBents_22 : decode cX3_sharedWithAllBents 22 = .ok (.ireturn, 1) := by decide +kernel
theorem dX3_sharedWithAllBents_23 : decode cX3_sharedWithAllBents 23 = .ok (.iinc 1 (-1), 3) := by decide +kernel
theorem dX3_sharedWithAllBents_26 : decode cX3_sharedWithAllBents 26 = .ok (.goto (-23), 3) := by decide +kernel
theorem dX3_sharedWithAllBents_29 : decode cX3_sharedWithAllBents 29 = .ok (.iconst 1, 1) := by decide +kernel
theorem dX3_sharedWithAllBents_30 : decode cX3_sharedWithAllBents 30 = .ok (.ireturn, 1) := by decide +kernel
theorem dX3_power_0 : decode cX3_power 0 = .ok (.lconst 1, 1) := by decide +kernel
theorem dX3_power_1 : decode cX3_power 1 = .ok (.lstore_n 2, 1) := by decide +kernel
theorem dX3_power_2 : decode cX3_power 2 = .ok (.iconst 0, 1) := by decide +kernel
theorem dX3_power_3 : decode cX3_power 3 = .ok (.istore 4, 2) := by decide +kernel
theorem dX3_power_5 : decode cX3_power 5 = .ok (.iload 4, 2) := by decide +kernel
theorem dX3_power_7 : decode cX3_power 7 = .ok (.iload_n 1, 1) := by decide +kernel
theorem dX3_power_8 : decode cX3_power 8 = .ok (.if_icmp .ge 14, 3) := by decide +kernel
theorem dX3_power_11 : decode cX3_power 11 = .ok (.lload_n 2, 1) := by decide +kernel
theorem dX3_power_12 : decode cX3_power 12 = .ok (.iload_n 0, 1) := by decide +kernel
theorem dX3_power_13 : decode cX3_power 13 = .ok (.i2l, 1) := by decide +kernel
theorem dX3_power_14 : decode cX3_power 14 = .ok (.lmul, 1) := by decide +kernel
theorem dX3_power_15 : decode cX3_power 15 = .ok (.lstore_n 2, 1) := by decide +kernel
theorem dX3_power_16 : decode cX3_power 16 = .ok (.iinc 4 1, 3) := by decide +kernel
theorem dX3_power_19 : decode cX3_power 19 = .ok (.goto (-14), 3) := by decide +kernel
theorem dX3_power_22 : decode cX3_power 22 = .ok (.lload_n 2, 1) := by decide +kernel
theorem dX3_power_23 : decode cX3_power 23 = .ok (.lreturn, 1) := by decide +kernel
theorem dX3_within_0 : decode cX3_within 0 = .ok (.iload_n 0, 1) := by decide +kernel
theorem dX3_within_1 : decode cX3_within 1 = .ok (.iload_n 1, 1) := by decide +kernel
theorem dX3_within_2 : decode cX3_within 2 = .ok (.if_icmp .lt 12, 3) := by decide +kernel
theorem dX3_within_5 : decode cX3_within 5 = .ok (.iload_n 0, 1) := by decide +kernel
theorem dX3_within_6 : decode cX3_within 6 = .ok (.iload_n 2, 1) := by decide +kernel
theorem dX3_within_7 : decode cX3_within 7 = .ok (.if_icmp .gt 7, 3) := by decide +kernel
theorem dX3_within_10 : decode cX3_within 10 = .ok (.iconst 1, 1) := by decide +kernel
theorem dX3_within_11 : decode cX3_within 11 = .ok (.goto 4, 3) := by decide +kernel
theorem dX3_within_14 : decode cX3_within 14 = .ok (.iconst 0, 1) := by decide +kernel
theorem dX3_within_15 : decode cX3_within 15 = .ok (.ireturn, 1) := by decide +kernel
theorem dX3_isPlace_0 : decode cX3_isPlace 0 = .ok (.iload_n 0, 1) := by decide +kernel
theorem dX3_isPlace_1 : decode cX3_isPlace 1 = .ok (.iconst 0, 1) := by decide +kernel
theorem dX3_isPlace_2 : decode cX3_isPlace 2 = .ok (.iconst 5, 1) := by decide +kernel
theorem dX3_isPlace_3 : decode cX3_isPlace 3 = .ok (.invokestatic 48, 3) := by decide +kernel
theorem dX3_isPlace_6 : decode cX3_isPlace 6 = .ok (.ireturn, 1) := by decide +kernel
theorem dX3_isKind_0 : decode cX3_isKind 0 = .ok (.iload_n 0, 1) := by decide +kernel
theorem dX3_isKind_1 : decode cX3_isKind 1 = .ok (.iconst 0, 1) := by decide +kernel
theorem dX3_isKind_2 : decode cX3_isKind 2 = .ok (.bipush 6, 2) := by decide +kernel
theorem dX3_isKind_4 : decode cX3_isKind 4 = .ok (.invokestatic 48, 3) := by decide +kernel
theorem dX3_isKind_7 : decode cX3_isKind 7 = .ok (.ireturn, 1) := by decide +kernel
theorem dX3_isTown_0 : decode cX3_isTown 0 = .ok (.iload_n 0, 1) := by decide +kernel
theorem dX3_isTown_1 : decode cX3_isTown 1 = .ok (.iconst 0, 1) := by decide +kernel
theorem dX3_isTown_2 : decode cX3_isTown 2 = .ok (.bipush 11, 2) := by decide +kernel
theorem dX3_isTown_4 : decode cX3_isTown 4 = .ok (.invokestatic 48, 3) := by decide +kernel
theorem dX3_isTown_7 : decode cX3_isTown 7 = .ok (.ireturn, 1) := by decide +kernel
theorem dX3_isBent_0 : decode cX3_isBent 0 = .ok (.iload_n 0, 1) := by decide +kernel
theorem dX3_isBent_1 : decode cX3_isBent 1 = .ok (.iconst 0, 1) := by decide +kernel
theorem dX3_isBent_2 : decode cX3_isBent 2 = .ok (.bipush 99, 2) := by decide +kernel
theorem dX3_isBent_4 : decode cX3_isBent 4 = .ok (.invokestatic 48, 3) := by decide +kernel
theorem dX3_isBent_7 : decode cX3_isBent 7 = .ok (.ireturn, 1) := by decide +kernel
theorem dX3_isGuestFact_0 : decode cX3_isGuestFact 0 = .ok (.iload_n 0, 1) := by decide +kernel
theorem dX3_isGuestFact_1 : decode cX3_isGuestFact 1 = .ok (.iconst 0, 1) := by decide +kernel
theorem dX3_isGuestFact_2 : decode cX3_isGuestFact 2 = .ok (.iconst 4, 1) := by decide +kernel
theorem dX3_isGuestFact_3 : decode cX3_isGuestFact 3 = .ok (.invokestatic 48, 3) := by decide +kernel
theorem dX3_isGuestFact_6 : decode cX3_isGuestFact 6 = .ok (.ireturn, 1) := by decide +kernel
theorem dX3_isSpot_0 : decode cX3_isSpot 0 = .ok (.iload_n 0, 1) := by decide +kernel
theorem dX3_isSpot_1 : decode cX3_isSpot 1 = .ok (.iconst 0, 1) := by decide +kernel
theorem dX3_isSpot_2 : decode cX3_isSpot 2 = .ok (.bipush 9, 2) := by decide +kernel
theorem dX3_isSpot_4 : decode cX3_isSpot 4 = .ok (.invokestatic 48, 3) := by decide +kernel
theorem dX3_isSpot_7 : decode cX3_isSpot 7 = .ok (.ireturn, 1) := by decide +kernel
theorem dX3_isSheet_0 : decode cX3_isSheet 0 = .ok (.iload_n 0, 1) := by decide +kernel
theorem dX3_isSheet_1 : decode cX3_isSheet 1 = .ok (.iconst 0, 1) := by decide +kernel
theorem dX3_isSheet_2 : decode cX3_isSheet 2 = .ok (.iconst 3, 1) := by decide +kernel
theorem dX3_isSheet_3 : decode cX3_isSheet 3 = .ok (.invokestatic 48, 3) := by decide +kernel
theorem dX3_isSheet_6 : decode cX3_isSheet 6 = .ok (.ireturn, 1) := by decide +kernel
