theorem dX3_init_0 : decode cX3_init 0 = .ok (.aload_n 0, 1) := by decide +kernel
theorem dX3_init_1 : decode cX3_init 1 = .ok (.invokespecial 3, 3) := by decide +kernel
theorem dX3_init_4 : decode cX3_init 4 = .ok (.aload_n 0, 1) := by decide +kernel
theorem dX3_init_5 : decode cX3_init 5 = .ok (.bipush 8, 2) := by decide +kernel
theorem dX3_init_7 : decode cX3_init 7 = .ok (.anewarray 9, 3) := by decide +kernel
theorem dX3_init_10 : decode cX3_init 10 = .ok (.putfield 11, 3) := by decide +kernel
theorem dX3_init_13 : decode cX3_init 13 = .ok (.aload_n 0, 1) := by decide +kernel
theorem dX3_init_14 : decode cX3_init 14 = .ok (.new 17, 3) := by decide +kernel
theorem dX3_init_17 : decode cX3_init 17 = .ok (.dup, 1) := by decide +kernel
theorem dX3_init_18 : decode cX3_init 18 = .ok (.invokespecial 19, 3) := by decide +kernel
theorem dX3_init_21 : decode cX3_init 21 = .ok (.putfield 20, 3) := by decide +kernel
theorem dX3_init_24 : decode cX3_init 24 = .ok (.iconst 0, 1) := by decide +kernel
theorem dX3_init_25 : decode cX3_init 25 = .ok (.istore_n 1, 1) := by decide +kernel
theorem dX3_init_26 : decode cX3_init 26 = .ok (.iload_n 1, 1) := by decide +kernel
theorem dX3_init_27 : decode cX3_init 27 = .ok (.bipush 8, 2) := by decide +kernel
theorem dX3_init_29 : decode cX3_init 29 = .ok (.if_icmp .ge 22, 3) := by decide +kernel
theorem dX3_init_32 : decode cX3_init 32 = .ok (.aload_n 0, 1) := by decide +kernel
theorem dX3_init_33 : decode cX3_init 33 = .ok (.getfield 11, 3) := by decide +kernel
theorem dX3_init_36 : decode cX3_init 36 = .ok (.iload_n 1, 1) := by decide +kernel
theorem dX3_init_37 : decode cX3_init 37 = .ok (.new 9, 3) := by decide +kernel
theorem dX3_init_40 : decode cX3_init 40 = .ok (.dup, 1) := by decide +kernel
theorem dX3_init_41 : decode cX3_init 41 = .ok (.invokespecial 24, 3) := by decide +kernel
theorem dX3_init_44 : decode cX3_init 44 = .ok (.aastore, 1) := by decide +kernel
theorem dX3_init_45 : decode cX3_init 45 = .ok (.iinc 1 1, 3) := by decide +kernel
theorem dX3_init_48 : decode cX3_init 48 = .ok (.goto (-22), 3) := by decide +kernel
theorem dX3_init_51 : decode cX3_init 51 = .ok (.return_, 1) := by decide +kernel
theorem dX3_fill_0 : decode cX3_fill 0 = .ok (.aload_n 0, 1) := by decide +kernel
theorem dX3_fill_1 : decode cX3_fill 1 = .ok (.aload_n 1, 1) := by decide +kernel
theorem dX3_fill_2 : decode cX3_fill 2 = .ok (.getfield 25, 3) := by decide +kernel
theorem dX3_fill_5 : decode cX3_fill 5 = .ok (.putfield 31, 3) := by decide +kernel
theorem dX3_fill_8 : decode cX3_fill 8 = .ok (.aload_n 0, 1) := by decide +kernel
theorem dX3_fill_9 : decode cX3_fill 9 = .ok (.aload_n 1, 1) := by decide +kernel
theorem dX3_fill_10 : decode cX3_fill 10 = .ok (.getfield 32, 3) := by decide +kernel
theorem dX3_fill_13 : decode cX3_fill 13 = .ok (.putfield 35, 3) := by decide +kernel
theorem dX3_fill_16 : decode cX3_fill 16 = .ok (.iconst 0, 1) := by decide +kernel
theorem dX3_fill_17 : decode cX3_fill 17 = .ok (.istore_n 2, 1) := by decide +kernel
theorem dX3_fill_18 : decode cX3_fill 18 = .ok (.iload_n 2, 1) := by decide +kernel
theorem dX3_fill_19 : decode cX3_fill 19 = .ok (.aload_n 0, 1) := by decide +kernel
theorem dX3_fill_20 : decode cX3_fill 20 = .ok (.getfield 31, 3) := by decide +kernel
theorem dX3_fill_23 : decode cX3_fill 23 = .ok (.if_icmp .ge 69, 3) := by decide +kernel
theorem dX3_fill_26 : decode cX3_fill 26 = .ok (.aload_n 0, 1) := by decide +kernel
theorem dX3_fill_27 : decode cX3_fill 27 = .ok (.getfield 11, 3) := by decide +kernel
theorem dX3_fill_30 : decode cX3_fill 30 = .ok (.iload_n 2, 1) := by decide +kernel
theorem dX3_fill_31 : decode cX3_fill 31 = .ok (.aaload, 1) := by decide +kernel
theorem dX3_fill_32 : decode cX3_fill 32 = .ok (.aload_n 1, 1) := by decide +kernel
theorem dX3_fill_33 : decode cX3_fill 33 = .ok (.getfield 36, 3) := by decide +kernel
theorem dX3_fill_36 : decode cX3_fill 36 = .ok (.iload_n 2, 1) := by decide +kernel
theorem dX3_fill_37 : decode cX3_fill 37 = .ok (.iaload, 1) := by decide +kernel
theorem dX3_fill_38 : decode cX3_fill 38 = .ok (.putfield 40, 3) := by decide +kernel
theorem dX3_fill_41 : decode cX3_fill 41 = .ok (.aload_n 0, 1) := by decide +kernel
theorem dX3_fill_42 : decode cX3_fill 42 = .ok (.getfield 11, 3) := by decide +kernel
theorem dX3_fill_45 : decode cX3_fill 45 = .ok (.iload_n 2, 1) := by decide +kernel
theorem dX3_fill_46 : decode cX3_fill 46 = .ok (.aaload, 1) := by decide +kernel
theorem dX3_fill_47 : decode cX3_fill 47 = .ok (.aload_n 1, 1) := by decide +kernel
theorem dX3_fill_48 : decode cX3_fill 48 = .ok (.getfield 42, 3) := by decide +kernel
theorem dX3_fill_51 : decode cX3_fill 51 = .ok (.iload_n 2, 1) := by decide +kernel
theorem dX3_fill_52 : decode cX3_fill 52 = .ok (.iaload, 1) := by decide +kernel
theorem dX3_fill_53 : decode cX3_fill 53 = .ok (.putfield 45, 3) := by decide +kernel
theorem dX3_fill_56 : decode cX3_fill 56 = .ok (.aload_n 0, 1) := by decide +kernel
theorem dX3_fill_57 : decode cX3_fill 57 = .ok (.getfield 11, 3) := by decide +kernel
theorem dX3_fill_60 : decode cX3_fill 60 = .ok (.iload_n 2, 1) := by decide +kernel
theorem dX3_fill_61 : decode cX3_fill 61 = .ok (.aaload, 1) := by decide +kernel
theorem dX3_fill_62 : decode cX3_fill 62 = .ok (.aload_n 1, 1) := by decide +kernel
theorem dX3_fill_63 : decode cX3_fill 63 = .ok (.getfield 47, 3) := by decide +kernel
theorem dX3_fill_66 : decode cX3_fill 66 = .ok (.iload_n 2, 1) := by decide +kernel
theorem dX3_fill_67 : decode cX3_fill 67 = .ok (.iaload, 1) := by decide +kernel
theorem dX3_fill_68 : decode cX3_fill 68 = .ok (.putfield 50, 3) := by decide +kernel
theorem dX3_fill_71 : decode cX3_fill 71 = .ok (.aload_n 0, 1) := by decide +kernel
theorem dX3_fill_72 : decode cX3_fill 72 = .ok (.getfield 11, 3) := by decide +kernel
theorem dX3_fill_75 : decode cX3_fill 75 = .ok (.iload_n 2, 1) := by decide +kernel
theorem dX3_fill_76 : decode cX3_fill 76 = .ok (.aaload, 1) := by decide +kernel
theorem dX3_fill_77 : decode cX3_fill 77 = .ok (.aload_n 1, 1) := by decide +kernel
theorem dX3_fill_78 : decode cX3_fill 78 = .ok (.getfield 52, 3) := by decide +kernel
theorem dX3_fill_81 : decode cX3_fill 81 = .ok (.iload_n 2, 1) := by decide +kernel
theorem dX3_fill_82 : decode cX3_fill 82 = .ok (.iaload, 1) := by decide +kernel
theorem dX3_fill_83 : decode cX3_fill 83 = .ok (.putfield 55, 3) := by decide +kernel
theorem dX3_fill_86 : decode cX3_fill 86 = .ok (.iinc 2 1, 3) := by decide +kernel
theorem dX3_fill_89 : decode cX3_fill 89 = .ok (.goto (-71), 3) := by decide +kernel
theorem dX3_fill_92 : decode cX3_fill 92 = .ok (.aload_n 0, 1) := by decide +kernel
theorem dX3_fill_93 : decode cX3_fill 93 = .ok (.getfield 20, 3) := by decide +kernel
theorem dX3_fill_96 : decode cX3_fill 96 = .ok (.iconst 0, 1) := by decide +kernel
theorem dX3_fill_97 : decode cX3_fill 97 = .ok (.putfield 57, 3) := by decide +kernel
theorem dX3_fill_100 : decode cX3_fill 100 = .ok (.aload_n 0, 1) := by decide +kernel
theorem dX3_fill_101 : decode cX3_fill 101 = .ok (.invokevirtual 58, 3) := by decide +kernel
theorem dX3_fill_104 : decode cX3_fill 104 = .ok (.return_, 1) := by decide +kernel
theorem dX3_has_0 : decode cX3_has 0 = .ok (.iload_n 1, 1) := by decide +kernel
theorem dX3_has_1 : decode cX3_has 1 = .ok (.ifCond .lt 15, 3) := by decide +kernel
theorem dX3_has_4 : decode cX3_has 4 = .ok (.iload_n 1, 1) := by decide +kernel
theorem dX3_has_5 : decode cX3_has 5 = .ok (.aload_n 0, 1) := by decide +kernel
theorem dX3_has_6 : decode cX3_has 6 = .ok (.getfield 31, 3) := by decide +kernel
theorem dX3_has_9 : decode cX3_has 9 = .ok (.if_icmp .ge 7, 3) := by decide +kernel
theorem dX3_has_12 : decode cX3_has 12 = .ok (.iconst 1, 1) := by decide +kernel
theorem dX3_has_13 : decode cX3_has 13 = .ok (.goto 4, 3) := by decide +kernel
theorem dX3_has_16 : decode cX3_has 16 = .ok (.iconst 0, 1) := by decide +kernel
theorem dX3_has_17 : decode cX3_has 17 = .ok (.ireturn, 1) := by decide +kernel
theorem dX3_isSet_0 : decode cX3_isSet 0 = .ok (.iload_n 1, 1) := by decide +kernel
theorem dX3_isSet_1 : decode cX3_isSet 1 = .ok (.ifCond .lt 17, 3) := by decide +kernel
theorem dX3_isSet_4 : decode cX3_isSet 4 = .ok (.iload_n 1, 1) := by decide +kernel
theorem dX3_isSet_5 : decode cX3_isSet 5 = .ok (.iconst 1, 1) := by decide +kernel
theorem dX3_isSet_6 : decode cX3_isSet 6 = .ok (.aload_n 0, 1) := by decide +kernel
theorem dX3_isSet_7 : decode cX3_isSet 7 = .ok (.getfield 31, 3) := by decide +kernel
theorem dX3_isSet_10 : decode cX3_isSet 10 = .ok (.ishl, 1) := by decide +kernel
theorem dX3_isSet_11 : decode cX3_isSet 11 = .ok (.if_icmp .ge 7, 3) := by decide +kernel
theorem dX3_isSet_14 : decode cX3_isSet 14 = .ok (.iconst 1, 1) := by decide +kernel
theorem dX3_isSet_15 : decode cX3_isSet 15 = .ok (.goto 4, 3) := by decide +kernel
theorem dX3_isSet_18 : decode cX3_isSet 18 = .ok (.iconst 0, 1) := by decide +kernel
theorem dX3_isSet_19 : decode cX3_isSet 19 = .ok (.ireturn, 1) := by decide +kernel
theorem dX3_isInside_0 : decode cX3_isInside 0 = .ok (.aload_n 0, 1) := by decide +kernel
theorem dX3_isInside_1 : decode cX3_isInside 1 = .ok (.iload_n 1, 1) := by decide +kernel
theorem dX3_isInside_2 : decode cX3_isInside 2 = .ok (.invokevirtual 61, 3) := by decide +kernel
theorem dX3_isInside_5 : decode cX3_isInside 5 = .ok (.ifCond .eq 19, 3) := by decide +kernel
theorem dX3_isInside_8 : decode cX3_isInside 8 = .ok (.aload_n 0, 1) := by decide +kernel
theorem dX3_isInside_9 : decode cX3_isInside 9 = .ok (.getfield 11, 3) := by decide +kernel
theorem dX3_isInside_12 : decode cX3_isInside 12 = .ok (.iload_n 1, 1) := by decide +kernel
theorem dX3_isInside_13 : decode cX3_isInside 13 = .ok (.aaload, 1) := by decide +kernel
theorem dX3_isInside_14 : decode cX3_isInside 14 = .ok (.getfield 65, 3) := by decide +kernel
theorem dX3_isInside_17 : decode cX3_isInside 17 = .ok (.ifCond .ne 7, 3) := by decide +kernel
theorem dX3_isInside_20 : decode cX3_isInside 20 = .ok (.iconst 1, 1) := by decide +kernel
theorem dX3_isInside_21 : decode cX3_isInside 21 = .ok (.goto 4, 3) := by decide +kernel
theorem dX3_isInside_24 : decode cX3_isInside 24 = .ok (.iconst 0, 1) := by decide +kernel
theorem dX3_isInside_25 : decode cX3_isInside 25 = .ok (.ireturn, 1) := by decide +kernel
theorem dX3_canBeLost_0 : decode cX3_canBeLost 0 = .ok (.aload_n 0, 1) := by decide +kernel
theorem dX3_canBeLost_1 : decode cX3_canBeLost 1 = .ok (.iload_n 1, 1) := by decide +kernel
theorem dX3_canBeLost_2 : decode cX3_canBeLost 2 = .ok (.invokevirtual 68, 3) := by decide +kernel
theorem dX3_canBeLost_5 : decode cX3_canBeLost 5 = .ok (.ifCond .eq 20, 3) := by decide +kernel
theorem dX3_canBeLost_8 : decode cX3_canBeLost 8 = .ok (.aload_n 0, 1) := by decide +kernel
theorem dX3_canBeLost_9 : decode cX3_canBeLost 9 = .ok (.getfield 11, 3) := by decide +kernel
theorem dX3_canBeLost_12 : decode cX3_canBeLost 12 = .ok (.iload_n 1, 1) := by decide +kernel
theorem dX3_canBeLost_13 : decode cX3_canBeLost 13 = .ok (.aaload, 1) := by decide +kernel
theorem dX3_canBeLost_14 : decode cX3_canBeLost 14 = .ok (.getfield 40, 3) := by decide +kernel
theorem dX3_canBeLost_17 : decode cX3_canBeLost 17 = .ok (.iconst 3, 1) := by decide +kernel
theorem dX3_canBeLost_18 : decode cX3_canBeLost 18 = .ok (.if_icmp .eq 7, 3) := by decide +kernel
theorem dX3_canBeLost_21 : decode cX3_canBeLost 21 = .ok (.iconst 1, 1) := by decide +kernel
theorem dX3_canBeLost_22 : decode cX3_canBeLost 22 = .ok (.goto 4, 3) := by decide +kernel
theorem dX3_canBeLost_25 : decode cX3_canBeLost 25 = .ok (.iconst 0, 1) := by decide +kernel
theorem dX3_canBeLost_26 : decode cX3_canBeLost 26 = .ok (.ireturn, 1) := by decide +kernel
theorem dX3_setOf_0 : decode cX3_setOf 0 = .ok (.iconst 0, 1) := by decide +kernel
theorem dX3_setOf_1 : decode cX3_setOf 1 = .ok (.istore_n 2, 1) := by decide +kernel
theorem dX3_setOf_2 : decode cX3_setOf 2 = .ok (.iconst 0, 1) := by decide +kernel
theorem dX3_setOf_3 : decode cX3_setOf 3 = .ok (.istore_n 3, 1) := by decide +kernel
theorem dX3_setOf_4 : decode cX3_setOf 4 = .ok (.iload_n 3, 1) := by decide +kernel
theorem dX3_setOf_5 : decode cX3_setOf 5 = .ok (.aload_n 0, 1) := by decide +kernel
theorem dX3_setOf_6 : decode cX3_setOf 6 = .ok (.getfield 31, 3) := by decide +kernel
theorem dX3_setOf_9 : decode cX3_setOf 9 = .ok (.if_icmp .ge 28, 3) := by decide +kernel
theorem dX3_setOf_12 : decode cX3_setOf 12 = .ok (.aload_n 0, 1) := by decide +kernel
theorem dX3_setOf_13 : decode cX3_setOf 13 = .ok (.getfield 11, 3) := by decide +kernel
theorem dX3_setOf_16 : decode cX3_setOf 16 = .ok (.iload_n 3, 1) := by decide +kernel
theorem dX3_setOf_17 : decode cX3_setOf 17 = .ok (.aaload, 1) := by decide +kernel
theorem dX3_setOf_18 : decode cX3_setOf 18 = .ok (.getfield 65, 3) := by decide +kernel
theorem dX3_setOf_21 : decode cX3_setOf 21 = .ok (.iload_n 1, 1) := by decide +kernel
theorem dX3_setOf_22 : decode cX3_setOf 22 = .ok (.if_icmp .ne 9, 3) := by decide +kernel
theorem dX3_setOf_25 : decode cX3_setOf 25 = .ok (.iload_n 2, 1) := by decide +kernel
theorem dX3_setOf_26 : decode cX3_setOf 26 = .ok (.iconst 1, 1) := by decide +kernel
theorem dX3_setOf_27 : decode cX3_setOf 27 = .ok (.iload_n 3, 1) := by decide +kernel
theorem dX3_setOf_28 : decode cX3_setOf 28 = .ok (.ishl, 1) := by decide +kernel
theorem dX3_setOf_29 : decode cX3_setOf 29 = .ok (.ior, 1) := by decide +kernel
theorem dX3_setOf_30 : decode cX3_setOf 30 = .ok (.istore_n 2, 1) := by decide +kernel
theorem dX3_setOf_31 : decode cX3_setOf 31 = .ok (.iinc 3 1, 3) := by decide +kernel
theorem dX3_setOf_34 : decode cX3_setOf 34 = .ok (.goto (-30), 3) := by decide +kernel
theorem dX3_setOf_37 : decode cX3_setOf 37 = .ok (.iload_n 2, 1) := by decide +kernel
theorem dX3_setOf_38 : decode cX3_setOf 38 = .ok (.ireturn, 1) := by decide +kernel
theorem dX3_howManyInside_0 : decode cX3_howManyInside 0 = .ok (.aload_n 0, 1) := by decide +kernel
theorem dX3_howManyInside_1 : decode cX3_howManyInside 1 = .ok (.iconst 0, 1) := by decide +kernel
theorem dX3_howManyInside_2 : decode cX3_howManyInside 2 = .ok (.invokevirtual 71, 3) := by decide +kernel
theorem dX3_howManyInside_5 : decode cX3_howManyInside 5 = .ok (.invokestatic 75, 3) := by decide +kernel
theorem dX3_howManyInside_8 : decode cX3_howManyInside 8 = .ok (.ireturn, 1) := by decide +kernel
theorem dX3_hasRoom_0 : decode cX3_hasRoom 0 = .ok (.aload_n 0, 1) := by decide +kernel
theorem dX3_hasRoom_1 : decode cX3_hasRoom 1 = .ok (.invokevirtual 80, 3) := by decide +kernel
theorem dX3_hasRoom_4 : decode cX3_hasRoom 4 = .ok (.aload_n 0, 1) := by decide +kernel
theorem dX3_hasRoom_5 : decode cX3_hasRoom 5 = .ok (.getfield 35, 3) := by decide +kernel
theorem dX3_hasRoom_8 : decode cX3_hasRoom 8 = .ok (.if_icmp .ge 7, 3) := by decide +kernel
theorem dX3_hasRoom_11 : decode cX3_hasRoom 11 = .ok (.iconst 1, 1) := by decide +kernel
theorem dX3_hasRoom_12 : decode cX3_hasRoom 12 = .ok (.goto 4, 3) := by decide +kernel
theorem dX3_hasRoom_15 : decode cX3_hasRoom 15 = .ok (.iconst 0, 1) := by decide +kernel
theorem dX3_hasRoom_16 : decode cX3_hasRoom 16 = .ok (.ireturn, 1) := by decide +kernel
theorem dX3_allWear_0 : decode cX3_allWear 0 = .ok (.iconst 0, 1) := by decide +kernel
theorem dX3_allWear_1 : decode cX3_allWear 1 = .ok (.istore_n 1, 1) := by decide +kernel
theorem dX3_allWear_2 : decode cX3_allWear 2 = .ok (.iconst 0, 1) := by decide +kernel
theorem dX3_allWear_3 : decode cX3_allWear 3 = .ok (.istore_n 2, 1) := by decide +kernel
theorem dX3_allWear_4 : decode cX3_allWear 4 = .ok (.iload_n 2, 1) := by decide +kernel
theorem dX3_allWear_5 : decode cX3_allWear 5 = .ok (.aload_n 0, 1) := by decide +kernel
theorem dX3_allWear_6 : decode cX3_allWear 6 = .ok (.getfield 31, 3) := by decide +kernel
theorem dX3_allWear_9 : decode cX3_allWear 9 = .ok (.if_icmp .ge 21, 3) := by decide +kernel
theorem dX3_allWear_12 : decode cX3_allWear 12 = .ok (.iload_n 1, 1) := by decide +kernel
theorem dX3_allWear_13 : decode cX3_allWear 13 = .ok (.aload_n 0, 1) := by decide +kernel
theorem dX3_allWear_14 : decode cX3_allWear 14 = .ok (.getfield 11, 3) := by decide +kernel
theorem dX3_allWear_17 : decode cX3_allWear 17 = .ok (.iload_n 2, 1) := by decide +kernel
theorem dX3_allWear_18 : decode cX3_allWear 18 = .ok (.aaload, 1) := by decide +kernel
theorem dX3_allWear_19 : decode cX3_allWear 19 = .ok (.getfield 84, 3) := by decide +kernel
theorem dX3_allWear_22 : decode cX3_allWear 22 = .ok (.iadd, 1) := by decide +kernel
theorem dX3_allWear_23 : decode cX3_allWear 23 = .ok (.istore_n 1, 1) := by decide +kernel
theorem dX3_allWear_24 : decode cX3_allWear 24 = .ok (.iinc 2 1, 3) := by decide +kernel
theorem dX3_allWear_27 : decode cX3_allWear 27 = .ok (.goto (-23), 3) := by decide +kernel
theorem dX3_allWear_30 : decode cX3_allWear 30 = .ok (.iload_n 1, 1) := by decide +kernel
theorem dX3_allWear_31 : decode cX3_allWear 31 = .ok (.ireturn, 1) := by decide +kernel
theorem dX3_howManyOf_0 : decode cX3_howManyOf 0 = .ok (.iconst 0, 1) := by decide +kernel
theorem dX3_howManyOf_1 : decode cX3_howManyOf 1 = .ok (.istore_n 2, 1) := by decide +kernel
theorem dX3_howManyOf_2 : decode cX3_howManyOf 2 = .ok (.iconst 0, 1) := by decide +kernel
theorem dX3_howManyOf_3 : decode cX3_howManyOf 3 = .ok (.istore_n 3, 1) := by decide +kernel
theorem dX3_howManyOf_4 : decode cX3_howManyOf 4 = .ok (.iload_n 3, 1) := by decide +kernel
theorem dX3_howManyOf_5 : decode cX3_howManyOf 5 = .ok (.aload_n 0, 1) := by decide +kernel
theorem dX3_howManyOf_6 : decode cX3_howManyOf 6 = .ok (.getfield 31, 3) := by decide +kernel
theorem dX3_howManyOf_9 : decode cX3_howManyOf 9 = .ok (.if_icmp .ge 25, 3) := by decide +kernel
theorem dX3_howManyOf_12 : decode cX3_howManyOf 12 = .ok (.aload_n 0, 1) := by decide +kernel
theorem dX3_howManyOf_13 : decode cX3_howManyOf 13 = .ok (.getfield 11, 3) := by decide +kernel
theorem dX3_howManyOf_16 : decode cX3_howManyOf 16 = .ok (.iload_n 3, 1) := by decide +kernel
theorem dX3_howManyOf_17 : decode cX3_howManyOf 17 = .ok (.aaload, 1) := by decide +kernel
theorem dX3_howManyOf_18 : decode cX3_howManyOf 18 = .ok (.iload_n 1, 1) := by decide +kernel
theorem dX3_howManyOf_19 : decode cX3_howManyOf 19 = .ok (.invokevirtual 87, 3) := by decide +kernel
theorem dX3_howManyOf_22 : decode cX3_howManyOf 22 = .ok (.ifCond .eq 6, 3) := by decide +kernel
theorem dX3_howManyOf_25 : decode cX3_howManyOf 25 = .ok (.iinc 2 1, 3) := by decide +kernel
theorem dX3_howManyOf_28 : decode cX3_howManyOf 28 = .ok (.iinc 3 1, 3) := by decide +kernel
theorem dX3_howManyOf_31 : decode cX3_howManyOf 31 = .ok (.goto (-27), 3) := by decide +kernel
theorem dX3_howManyOf_34 : decode cX3_howManyOf 34 = .ok (.iload_n 2, 1) := by decide +kernel
theorem dX3_howManyOf_35 : decode cX3_howManyOf 35 = .ok (.ireturn, 1) := by decide +kernel
theorem dX3_matesOf_0 : decode cX3_matesOf 0 = .ok (.iconst 0, 1) := by decide +kernel
theorem dX3_matesOf_1 : decode cX3_matesOf 1 = .ok (.istore_n 2, 1) := by decide +kernel
theorem dX3_matesOf_2 : decode cX3_matesOf 2 = .ok (.iconst 0, 1) := by decide +kernel
theorem dX3_matesOf_3 : decode cX3_matesOf 3 = .ok (.istore_n 3, 1) := by decide +kernel
theorem dX3_matesOf_4 : decode cX3_matesOf 4 = .ok (.iload_n 3, 1) := by decide +kernel
theorem dX3_matesOf_5 : decode cX3_matesOf 5 = .ok (.aload_n 0, 1) := by decide +kernel
theorem dX3_matesOf_6 : decode cX3_matesOf 6 = .ok (.getfield 31, 3) := by decide +kernel
theorem dX3_matesOf_9 : decode cX3_matesOf 9 = .ok (.if_icmp .ge 43, 3) := by decide +kernel
theorem dX3_matesOf_12 : decode cX3_matesOf 12 = .ok (.iload_n 3, 1) := by decide +kernel
theorem dX3_matesOf_13 : decode cX3_matesOf 13 = .ok (.iload_n 1, 1) := by decide +kernel
theorem dX3_matesOf_14 : decode cX3_matesOf 14 = .ok (.if_icmp .eq 32, 3) := by decide +kernel
theorem dX3_matesOf_17 : decode cX3_matesOf 17 = .ok (.aload_n 0, 1) := by decide +kernel
theorem dX3_matesOf_18 : decode cX3_matesOf 18 = .ok (.iload_n 3, 1) := by decide +kernel
theorem dX3_matesOf_19 : decode cX3_matesOf 19 = .ok (.invokevirtual 68, 3) := by decide +kernel
theorem dX3_matesOf_22 : decode cX3_matesOf 22 = .ok (.ifCond .eq 24, 3) := by decide +kernel
theorem dX3_matesOf_25 : decode cX3_matesOf 25 = .ok (.aload_n 0, 1) := by decide +kernel
theorem dX3_matesOf_26 : decode cX3_matesOf 26 = .ok (.getfield 11, 3) := by decide +kernel
theorem dX3_matesOf_29 : decode cX3_matesOf 29 = .ok (.iload_n 3, 1) := by decide +kernel
theorem dX3_matesOf_30 : decode cX3_matesOf 30 = .ok (.aaload, 1) := by decide +kernel
theorem dX3_matesOf_31 : decode cX3_matesOf 31 = .ok (.aload_n 0, 1) := by decide +kernel
theorem dX3_matesOf_32 : decode cX3_matesOf 32 = .ok (.getfield 11, 3) := by decide +kernel
theorem dX3_matesOf_35 : decode cX3_matesOf 35 = .ok (.iload_n 1, 1) := by decide +kernel
theorem dX3_matesOf_36 : decode cX3_matesOf 36 = .ok (.aaload, 1) := by decide +kernel
theorem dX3_matesOf_37 : decode cX3_matesOf 37 = .ok (.invokevirtual 90, 3) := by decide +kernel
theorem dX3_matesOf_40 : decode cX3_matesOf 40 = .ok (.ifCond .eq 6, 3) := by decide +kernel
theorem dX3_matesOf_43 : decode cX3_matesOf 43 = .ok (.iinc 2 1, 3) := by decide +kernel
theorem dX3_matesOf_46 : decode cX3_matesOf 46 = .ok (.iinc 3 1, 3) := by decide +kernel
theorem dX3_matesOf_49 : decode cX3_matesOf 49 = .ok (.goto (-45), 3) := by decide +kernel
theorem dX3_matesOf_52 : decode cX3_matesOf 52 = .ok (.iload_n 2, 1) := by decide +kernel
theorem dX3_matesOf_53 : decode cX3_matesOf 53 = .ok (.ireturn, 1) := by decide +kernel
theorem dX3_sameSortAs_0 : decode cX3_sameSortAs 0 = .ok (.iconst 0, 1) := by decide +kernel
theorem dX3_sameSortAs_1 : decode cX3_sameSortAs 1 = .ok (.istore_n 2, 1) := by decide +kernel
theorem dX3_sameSortAs_2 : decode cX3_sameSortAs 2 = .ok (.iconst 0, 1) := by decide +kernel
theorem dX3_sameSortAs_3 : decode cX3_sameSortAs 3 = .ok (.istore_n 3, 1) := by decide +kernel
theorem dX3_sameSortAs_4 : decode cX3_sameSortAs 4 = .ok (.iload_n 3, 1) := by decide +kernel
theorem dX3_sameSortAs_5 : decode cX3_sameSortAs 5 = .ok (.aload_n 0, 1) := by decide +kernel
theorem dX3_sameSortAs_6 : decode cX3_sameSortAs 6 = .ok (.getfield 31, 3) := by decide +kernel
theorem dX3_sameSortAs_9 : decode cX3_sameSortAs 9 = .ok (.if_icmp .ge 46, 3) := by decide +kernel
theorem dX3_sameSortAs_12 : decode cX3_sameSortAs 12 = .ok (.iload_n 3, 1) := by decide +kernel
theorem dX3_sameSortAs_13 : decode cX3_sameSortAs 13 = .ok (.iload_n 1, 1) := by decide +kernel
theorem dX3_sameSortAs_14 : decode cX3_sameSortAs 14 = .ok (.if_icmp .eq 35, 3) := by decide +kernel
theorem dX3_sameSortAs_17 : decode cX3_sameSortAs 17 = .ok (.aload_n 0, 1) := by decide +kernel
theorem dX3_sameSortAs_18 : decode cX3_sameSortAs 18 = .ok (.iload_n 3, 1) := by decide +kernel
theorem dX3_sameSortAs_19 : decode cX3_sameSortAs 19 = .ok (.invokevirtual 68, 3) := by decide +kernel
theorem dX3_sameSortAs_22 : decode cX3_sameSortAs 22 = .ok (.ifCond .eq 27, 3) := by decide +kernel
theorem dX3_sameSortAs_25 : decode cX3_sameSortAs 25 = .ok (.aload_n 0, 1) := by decide +kernel
theorem dX3_sameSortAs_26 : decode cX3_sameSortAs 26 = .ok (.getfield 11, 3) := by decide +kernel
theorem dX3_sameSortAs_29 : decode cX3_sameSortAs 29 = .ok (.iload_n 3, 1) := by decide +kernel
theorem dX3_sameSortAs_30 : decode cX3_sameSortAs 30 = .ok (.aaload, 1) := by decide +kernel
theorem dX3_sameSortAs_31 : decode cX3_sameSortAs 31 = .ok (.getfield 45, 3) := by decide +kernel
theorem dX3_sameSortAs_34 : decode cX3_sameSortAs 34 = .ok (.aload_n 0, 1) := by decide +kernel
theorem dX3_sameSortAs_35 : decode cX3_sameSortAs 35 = .ok (.getfield 11, 3) := by decide +kernel
theorem dX3_sameSortAs_38 : decode cX3_sameSortAs 38 = .ok (.iload_n 1, 1) := by decide +kernel
theorem dX3_sameSortAs_39 : decode cX3_sameSortAs 39 = .ok (.aaload, 1) := by decide +kernel
theorem dX3_sameSortAs_40 : decode cX3_sameSortAs 40 = .ok (.getfield 45, 3) := by decide +kernel
theorem dX3_sameSortAs_43 : decode cX3_sameSortAs 43 = .ok (.if_icmp .ne 6, 3) := by decide +kernel
theorem dX3_sameSortAs_46 : decode cX3_sameSortAs 46 = .ok (.iinc 2 1, 3) := by decide +kernel
theorem dX3_sameSortAs_49 : decode cX3_sameSortAs 49 = .ok (.iinc 3 1, 3) := by decide +kernel
theorem dX3_sameSortAs_52 : decode cX3_sameSortAs 52 = .ok (.goto (-48), 3) := by decide +kernel
theorem dX3_sameSortAs_55 : decode cX3_sameSortAs 55 = .ok (.iload_n 2, 1) := by decide +kernel
theorem dX3_sameSortAs_56 : decode cX3_sameSortAs 56 = .ok (.ireturn, 1) := by decide +kernel
theorem dX3_act_0 : decode cX3_act 0 = .ok (.aload_n 0, 1) := by decide +kernel
theorem dX3_act_1 : decode cX3_act 1 = .ok (.getfield 20, 3) := by decide +kernel
theorem dX3_act_4 : decode cX3_act 4 = .ok (.iload_n 1, 1) := by decide +kernel
theorem dX3_act_5 : decode cX3_act 5 = .ok (.iload_n 2, 1) := by decide +kernel
theorem dX3_act_6 : decode cX3_act 6 = .ok (.iload_n 3, 1) := by decide +kernel
theorem dX3_act_7 : decode cX3_act 7 = .ok (.invokevirtual 94, 3) := by decide +kernel
theorem dX3_act_10 : decode cX3_act 10 = .ok (.aload_n 0, 1) := by decide +kernel
theorem dX3_act_11 : decode cX3_act 11 = .ok (.iload_n 1, 1) := by decide +kernel
theorem dX3_act_12 : decode cX3_act 12 = .ok (.iload_n 2, 1) := by decide +kernel
theorem dX3_act_13 : decode cX3_act 13 = .ok (.iload_n 3, 1) := by decide +kernel
theorem dX3_act_14 : decode cX3_act 14 = .ok (.invokevirtual 98, 3) := by decide +kernel
theorem dX3_act_17 : decode cX3_act 17 = .ok (.return_, 1) := by decide +kernel
theorem dX3_actByLot_0 : decode cX3_actByLot 0 = .ok (.aload_n 0, 1) := by decide +kernel
theorem dX3_actByLot_1 : decode cX3_actByLot 1 = .ok (.getfield 31, 3) := by decide +kernel
theorem dX3_actByLot_4 : decode cX3_actByLot 4 = .ok (.ifCond .gt 4, 3) := by decide +kernel
theorem dX3_actByLot_7 : decode cX3_actByLot 7 = .ok (.return_, 1) := by decide +kernel
theorem dX3_actByLot_8 : decode cX3_actByLot 8 = .ok (.lload_n 1, 1) := by decide +kernel
theorem dX3_actByLot_9 : decode cX3_actByLot 9 = .ok (.aload_n 0, 1) := by decide +kernel
theorem dX3_actByLot_10 : decode cX3_actByLot 10 = .ok (.getfield 31, 3) := by decide +kernel
theorem dX3_actByLot_13 : decode cX3_actByLot 13 = .ok (.i2l, 1) := by decide +kernel
theorem dX3_actByLot_14 : decode cX3_actByLot 14 = .ok (.lrem, 1) := by decide +kernel
theorem dX3_actByLot_15 : decode cX3_actByLot 15 = .ok (.l2i, 1) := by decide +kernel
theorem dX3_actByLot_16 : decode cX3_actByLot 16 = .ok (.istore_n 3, 1) := by decide +kernel
theorem dX3_actByLot_17 : decode cX3_actByLot 17 = .ok (.aload_n 0, 1) := by decide +kernel
theorem dX3_actByLot_18 : decode cX3_actByLot 18 = .ok (.iload_n 3, 1) := by decide +kernel
theorem dX3_actByLot_19 : decode cX3_actByLot 19 = .ok (.invokevirtual 101, 3) := by decide +kernel
theorem dX3_actByLot_22 : decode cX3_actByLot 22 = .ok (.ifCond .eq 13, 3) := by decide +kernel
theorem dX3_actByLot_25 : decode cX3_actByLot 25 = .ok (.aload_n 0, 1) := by decide +kernel
theorem dX3_actByLot_26 : decode cX3_actByLot 26 = .ok (.iconst 2, 1) := by decide +kernel
theorem dX3_actByLot_27 : decode cX3_actByLot 27 = .ok (.iload_n 3, 1) := by decide +kernel
theorem dX3_actByLot_28 : decode cX3_actByLot 28 = .ok (.iload_n 3, 1) := by decide +kernel
theorem dX3_actByLot_29 : decode cX3_actByLot 29 = .ok (.invokevirtual 104, 3) := by decide +kernel
theorem dX3_actByLot_32 : decode cX3_actByLot 32 = .ok (.goto 37, 3) := by decide +kernel
theorem dX3_actByLot_35 : decode cX3_actByLot 35 = .ok (.aload_n 0, 1) := by decide +kernel
theorem dX3_actByLot_36 : decode cX3_actByLot 36 = .ok (.getfield 11, 3) := by decide +kernel
theorem dX3_actByLot_39 : decode cX3_actByLot 39 = .ok (.iload_n 3, 1) := by decide +kernel
theorem dX3_actByLot_40 : decode cX3_actByLot 40 = .ok (.aaload, 1) := by decide +kernel
theorem dX3_actByLot_41 : decode cX3_actByLot 41 = .ok (.getfield 65, 3) := by decide +kernel
theorem dX3_actByLot_44 : decode cX3_actByLot 44 = .ok (.iconst 1, 1) := by decide +kernel
theorem dX3_actByLot_45 : decode cX3_actByLot 45 = .ok (.if_icmp .ne 20, 3) := by decide +kernel
theorem dX3_actByLot_48 : decode cX3_actByLot 48 = .ok (.aload_n 0, 1) := by decide +kernel
theorem dX3_actByLot_49 : decode cX3_actByLot 49 = .ok (.invokevirtual 107, 3) := by decide +kernel
theorem dX3_actByLot_52 : decode cX3_actByLot 52 = .ok (.ifCond .eq 13, 3) := by decide +kernel
theorem dX3_actByLot_55 : decode cX3_actByLot 55 = .ok (.aload_n 0, 1) := by decide +kernel
theorem dX3_actByLot_56 : decode cX3_actByLot 56 = .ok (.iconst 3, 1) := by decide +kernel
theorem dX3_actByLot_57 : decode cX3_actByLot 57 = .ok (.iload_n 3, 1) := by decide +kernel
theorem dX3_actByLot_58 : decode cX3_actByLot 58 = .ok (.iload_n 3, 1) := by decide +kernel
theorem dX3_actByLot_59 : decode cX3_actByLot 59 = .ok (.invokevirtual 104, 3) := by decide +kernel
theorem dX3_actByLot_62 : decode cX3_actByLot 62 = .ok (.goto 7, 3) := by decide +kernel
theorem dX3_actByLot_65 : decode cX3_actByLot 65 = .ok (.aload_n 0, 1) := by decide +kernel
theorem dX3_actByLot_66 : decode cX3_actByLot 66 = .ok (.invokevirtual 111, 3) := by decide +kernel
theorem dX3_actByLot_69 : decode cX3_actByLot 69 = .ok (.return_, 1) := by decide +kernel
theorem dX3_wearFirstPair_0 : decode cX3_wearFirstPair 0 = .ok (.iconst 0, 1) := by decide +kernel
theorem dX3_wearFirstPair_1 : decode cX3_wearFirstPair 1 = .ok (.istore_n 1, 1) := by decide +kernel
theorem dX3_wearFirstPair_2 : decode cX3_wearFirstPair 2 = .ok (.iload_n 1, 1) := by decide +kernel
theorem dX3_wearFirstPair_3 : decode cX3_wearFirstPair 3 = .ok (.aload_n 0, 1) := by decide +kernel
theorem dX3_wearFirstPair_4 : decode cX3_wearFirstPair 4 = .ok (.getfield 31, 3) := by decide +kernel
theorem dX3_wearFirstPair_7 : decode cX3_wearFirstPair 7 = .ok (.if_icmp .ge 69, 3) := by decide +kernel
theorem dX3_wearFirstPair_10 : decode cX3_wearFirstPair 10 = .ok (.iload_n 1, 1) := by decide +kernel
theorem dX3_wearFirstPair_11 : decode cX3_wearFirstPair 11 = .ok (.iconst 1, 1) := by decide +kernel
theorem dX3_wearFirstPair_12 : decode cX3_wearFirstPair 12 = .ok (.iadd, 1) := by decide +kernel
theorem dX3_wearFirstPair_13 : decode cX3_wearFirstPair 13 = .ok (.istore_n 2, 1) := by decide +kernel
theorem dX3_wearFirstPair_14 : decode cX3_wearFirstPair 14 = .ok (.iload_n 2, 1) := by decide +kernel
theorem dX3_wearFirstPair_15 : decode cX3_wearFirstPair 15 = .ok (.aload_n 0, 1) := by decide +kernel
theorem dX3_wearFirstPair_16 : decode cX3_wearFirstPair 16 = .ok (.getfield 31, 3) := by decide +kernel
theorem dX3_wearFirstPair_19 : decode cX3_wearFirstPair 19 = .ok (.if_icmp .ge 51, 3) := by decide +kernel
theorem dX3_wearFirstPair_22 : decode cX3_wearFirstPair 22 = .ok (.aload_n 0, 1) := by decide +kernel
theorem dX3_wearFirstPair_23 : decode cX3_wearFirstPair 23 = .ok (.iload_n 1, 1) := by decide +kernel
theorem dX3_wearFirstPair_24 : decode cX3_wearFirstPair 24 = .ok (.invokevirtual 68, 3) := by decide +kernel
theorem dX3_wearFirstPair_27 : decode cX3_wearFirstPair 27 = .ok (.ifCond .eq 37, 3) := by decide +kernel
theorem dX3_wearFirstPair_30 : decode cX3_wearFirstPair 30 = .ok (.aload_n 0, 1) := by decide +kernel
theorem dX3_wearFirstPair_31 : decode cX3_wearFirstPair 31 = .ok (.iload_n 2, 1) := by decide +kernel
theorem dX3_wearFirstPair_32 : decode cX3_wearFirstPair 32 = .ok (.invokevirtual 68, 3) := by decide +kernel
theorem dX3_wearFirstPair_35 : decode cX3_wearFirstPair 35 = .ok (.ifCond .eq 29, 3) := by decide +kernel
theorem dX3_wearFirstPair_38 : decode cX3_wearFirstPair 38 = .ok (.aload_n 0, 1) := by decide +kernel
theorem dX3_wearFirstPair_39 : decode cX3_wearFirstPair 39 = .ok (.getfield 11, 3) := by decide +kernel
theorem dX3_wearFirstPair_42 : decode cX3_wearFirstPair 42 = .ok (.iload_n 1, 1) := by decide +kernel
theorem dX3_wearFirstPair_43 : decode cX3_wearFirstPair 43 = .ok (.aaload, 1) := by decide +kernel
theorem dX3_wearFirstPair_44 : decode cX3_wearFirstPair 44 = .ok (.aload_n 0, 1) := by decide +kernel
theorem dX3_wearFirstPair_45 : decode cX3_wearFirstPair 45 = .ok (.getfield 11, 3) := by decide +kernel
theorem dX3_wearFirstPair_48 : decode cX3_wearFirstPair 48 = .ok (.iload_n 2, 1) := by decide +kernel
theorem dX3_wearFirstPair_49 : decode cX3_wearFirstPair 49 = .ok (.aaload, 1) := by decide +kernel
theorem dX3_wearFirstPair_50 : decode cX3_wearFirstPair 50 = .ok (.invokevirtual 90, 3) := by decide +kernel
theorem dX3_wearFirstPair_53 : decode cX3_wearFirstPair 53 = .ok (.ifCond .eq 11, 3) := by decide +kernel
theorem dX3_wearFirstPair_56 : decode cX3_wearFirstPair 56 = .ok (.aload_n 0, 1) := by decide +kernel
theorem dX3_wearFirstPair_57 : decode cX3_wearFirstPair 57 = .ok (.iconst 1, 1) := by decide +kernel
theorem dX3_wearFirstPair_58 : decode cX3_wearFirstPair 58 = .ok (.iload_n 1, 1) := by decide +kernel
theorem dX3_wearFirstPair_59 : decode cX3_wearFirstPair 59 = .ok (.iload_n 2, 1) := by decide +kernel
theorem dX3_wearFirstPair_60 : decode cX3_wearFirstPair 60 = .ok (.invokevirtual 104, 3) := by decide +kernel
theorem dX3_wearFirstPair_63 : decode cX3_wearFirstPair 63 = .ok (.return_, 1) := by decide +kernel
theorem dX3_wearFirstPair_64 : decode cX3_wearFirstPair 64 = .ok (.iinc 2 1, 3) := by decide +kernel
theorem dX3_wearFirstPair_67 : decode cX3_wearFirstPair 67 = .ok (.goto (-53), 3) := by decide +kernel
theorem dX3_wearFirstPair_70 : decode cX3_wearFirstPair 70 = .ok (.iinc 1 1, 3) := by decide +kernel
theorem dX3_wearFirstPair_73 : decode cX3_wearFirstPair 73 = .ok (.goto (-71), 3) := by decide +kernel
theorem dX3_wearFirstPair_76 : decode cX3_wearFirstPair 76 = .ok (.aload_n 0, 1) := by decide +kernel
theorem dX3_wearFirstPair_77 : decode cX3_wearFirstPair 77 = .ok (.iconst 0, 1) := by decide +kernel
theorem dX3_wearFirstPair_78 : decode cX3_wearFirstPair 78 = .ok (.iconst 0, 1) := by decide +kernel
theorem dX3_wearFirstPair_79 : decode cX3_wearFirstPair 79 = .ok (.iconst 0, 1) := by decide +kernel
theorem dX3_wearFirstPair_80 : decode cX3_wearFirstPair 80 = .ok (.invokevirtual 104, 3) := by decide +kernel
theorem dX3_wearFirstPair_83 : decode cX3_wearFirstPair 83 = .ok (.return_, 1) := by decide +kernel
theorem dX3_replay_0 : decode cX3_replay 0 = .ok (.iconst 0, 1) := by decide +kernel
theorem dX3_replay_1 : decode cX3_replay 1 = .ok (.istore_n 1, 1) := by decide +kernel
theorem dX3_replay_2 : decode cX3_replay 2 = .ok (.iload_n 1, 1) := by decide +kernel
theorem dX3_replay_3 : decode cX3_replay 3 = .ok (.aload_n 0, 1) := by decide +kernel
theorem dX3_replay_4 : decode cX3_replay 4 = .ok (.getfield 31, 3) := by decide +kernel
theorem dX3_replay_7 : decode cX3_replay 7 = .ok (.if_icmp .ge 29, 3) := by decide +kernel
theorem dX3_replay_10 : decode cX3_replay 10 = .ok (.aload_n 0, 1) := by decide +kernel
theorem dX3_replay_11 : decode cX3_replay 11 = .ok (.getfield 11, 3) := by decide +kernel
theorem dX3_replay_14 : decode cX3_replay 14 = .ok (.iload_n 1, 1) := by decide +kernel
theorem dX3_replay_15 : decode cX3_replay 15 = .ok (.aaload, 1) := by decide +kernel
theorem dX3_replay_16 : decode cX3_replay 16 = .ok (.iconst 0, 1) := by decide +kernel
theorem dX3_replay_17 : decode cX3_replay 17 = .ok (.putfield 84, 3) := by decide +kernel
theorem dX3_replay_20 : decode cX3_replay 20 = .ok (.aload_n 0, 1) := by decide +kernel
theorem dX3_replay_21 : decode cX3_replay 21 = .ok (.getfield 11, 3) := by decide +kernel
theorem dX3_replay_24 : decode cX3_replay 24 = .ok (.iload_n 1, 1) := by decide +kernel
theorem dX3_replay_25 : decode cX3_replay 25 = .ok (.aaload, 1) := by decide +kernel
theorem dX3_replay_26 : decode cX3_replay 26 = .ok (.iconst 0, 1) := by decide +kernel
theorem dX3_replay_27 : decode cX3_replay 27 = .ok (.putfield 65, 3) := by decide +kernel
theorem dX3_replay_30 : decode cX3_replay 30 = .ok (.iinc 1 1, 3) := by decide +kernel
theorem dX3_replay_33 : decode cX3_replay 33 = .ok (.goto (-31), 3) := by decide +kernel
theorem dX3_replay_36 : decode cX3_replay 36 = .ok (.iconst 0, 1) := by decide +kernel
theorem dX3_replay_37 : decode cX3_replay 37 = .ok (.istore_n 1, 1) := by decide +kernel
theorem dX3_replay_38 : decode cX3_replay 38 = .ok (.iload_n 1, 1) := by decide +kernel
theorem dX3_replay_39 : decode cX3_replay 39 = .ok (.aload_n 0, 1) := by decide +kernel
theorem dX3_replay_40 : decode cX3_replay 40 = .ok (.getfield 20, 3) := by decide +kernel
theorem dX3_replay_43 : decode cX3_replay 43 = .ok (.getfield 57, 3) := by decide +kernel
theorem dX3_replay_46 : decode cX3_replay 46 = .ok (.if_icmp .ge 38, 3) := by decide +kernel
theorem dX3_replay_49 : decode cX3_replay 49 = .ok (.aload_n 0, 1) := by decide +kernel
theorem dX3_replay_50 : decode cX3_replay 50 = .ok (.getfield 20, 3) := by decide +kernel
theorem dX3_replay_53 : decode cX3_replay 53 = .ok (.getfield 114, 3) := by decide +kernel
theorem dX3_replay_56 : decode cX3_replay 56 = .ok (.iload_n 1, 1) := by decide +kernel
theorem dX3_replay_57 : decode cX3_replay 57 = .ok (.iaload, 1) := by decide +kernel
theorem dX3_replay_58 : decode cX3_replay 58 = .ok (.istore_n 2, 1) := by decide +kernel
theorem dX3_replay_59 : decode cX3_replay 59 = .ok (.aload_n 0, 1) := by decide +kernel
theorem dX3_replay_60 : decode cX3_replay 60 = .ok (.iload_n 2, 1) := by decide +kernel
theorem dX3_replay_61 : decode cX3_replay 61 = .ok (.bipush 100, 2) := by decide +kernel
theorem dX3_replay_63 : decode cX3_replay 63 = .ok (.idiv, 1) := by decide +kernel
theorem dX3_replay_64 : decode cX3_replay 64 = .ok (.iload_n 2, 1) := by decide +kernel
theorem dX3_replay_65 : decode cX3_replay 65 = .ok (.bipush 10, 2) := by decide +kernel
theorem dX3_replay_67 : decode cX3_replay 67 = .ok (.idiv, 1) := by decide +kernel
theorem dX3_replay_68 : decode cX3_replay 68 = .ok (.bipush 10, 2) := by decide +kernel
theorem dX3_replay_70 : decode cX3_replay 70 = .ok (.irem, 1) := by decide +kernel
theorem dX3_replay_71 : decode cX3_replay 71 = .ok (.iload_n 2, 1) := by decide +kernel
theorem dX3_replay_72 : decode cX3_replay 72 = .ok (.bipush 10, 2) := by decide +kernel
theorem dX3_replay_74 : decode cX3_replay 74 = .ok (.irem, 1) := by decide +kernel
theorem dX3_replay_75 : decode cX3_replay 75 = .ok (.invokevirtual 98, 3) := by decide +kernel
theorem dX3_replay_78 : decode cX3_replay 78 = .ok (.iinc 1 1, 3) := by decide +kernel
theorem dX3_replay_81 : decode cX3_replay 81 = .ok (.goto (-43), 3) := by decide +kernel
theorem dX3_replay_84 : decode cX3_replay 84 = .ok (.return_, 1) := by decide +kernel
theorem dX3_carryOut_0 : decode cX3_carryOut 0 = .ok (.aload_n 0, 1) := by decide +kernel
theorem dX3_carryOut_1 : decode cX3_carryOut 1 = .ok (.iload_n 2, 1) := by decide +kernel
theorem dX3_carryOut_2 : decode cX3_carryOut 2 = .ok (.invokevirtual 61, 3) := by decide +kernel
theorem dX3_carryOut_5 : decode cX3_carryOut 5 = .ok (.ifCond .eq 11, 3) := by decide +kernel
theorem dX3_carryOut_8 : decode cX3_carryOut 8 = .ok (.aload_n 0, 1) := by decide +kernel
theorem dX3_carryOut_9 : decode cX3_carryOut 9 = .ok (.iload_n 3, 1) := by decide +kernel
theorem dX3_carryOut_10 : decode cX3_carryOut 10 = .ok (.invokevirtual 61, 3) := by decide +kernel
theorem dX3_carryOut_13 : decode cX3_carryOut 13 = .ok (.ifCond .ne 4, 3) := by decide +kernel
theorem dX3_carryOut_16 : decode cX3_carryOut 16 = .ok (.return_, 1) := by decide +kernel
theorem dX3_carryOut_17 : decode cX3_carryOut 17 = .ok (.iload_n 1, 1) := by decide +kernel
theorem dX3_carryOut_18 : decode cX3_carryOut 18 = .ok (.tableswitch 102 1 4 #[30, 63, 76, 89], 30) := by decide +kernel
theorem dX3_carryOut_48 : decode cX3_carryOut 48 = .ok (.aload_n 0, 1) := by decide +kernel
theorem dX3_carryOut_49 : decode cX3_carryOut 49 = .ok (.getfield 11, 3) := by decide +kernel
theorem dX3_carryOut_52 : decode cX3_carryOut 52 = .ok (.iload_n 2, 1) := by decide +kernel
theorem dX3_carryOut_53 : decode cX3_carryOut 53 = .ok (.aaload, 1) := by decide +kernel
theorem dX3_carryOut_54 : decode cX3_carryOut 54 = .ok (.dup, 1) := by decide +kernel
theorem dX3_carryOut_55 : decode cX3_carryOut 55 = .ok (.getfield 84, 3) := by decide +kernel
theorem dX3_carryOut_58 : decode cX3_carryOut 58 = .ok (.iconst 1, 1) := by decide +kernel
theorem dX3_carryOut_59 : decode cX3_carryOut 59 = .ok (.iadd, 1) := by decide +kernel
theorem dX3_carryOut_60 : decode cX3_carryOut 60 = .ok (.putfield 84, 3) := by decide +kernel
theorem dX3_carryOut_63 : decode cX3_carryOut 63 = .ok (.aload_n 0, 1) := by decide +kernel
theorem dX3_carryOut_64 : decode cX3_carryOut 64 = .ok (.getfield 11, 3) := by decide +kernel
theorem dX3_carryOut_67 : decode cX3_carryOut 67 = .ok (.iload_n 3, 1) := by decide +kernel
theorem dX3_carryOut_68 : decode cX3_carryOut 68 = .ok (.aaload, 1) := by decide +kernel
theorem dX3_carryOut_69 : decode cX3_carryOut 69 = .ok (.dup, 1) := by decide +kernel
theorem dX3_carryOut_70 : decode cX3_carryOut 70 = .ok (.getfield 84, 3) := by decide +kernel
theorem dX3_carryOut_73 : decode cX3_carryOut 73 = .ok (.iconst 1, 1) := by decide +kernel
theorem dX3_carryOut_74 : decode cX3_carryOut 74 = .ok (.iadd, 1) := by decide +kernel
theorem dX3_carryOut_75 : decode cX3_carryOut 75 = .ok (.putfield 84, 3) := by decide +kernel
theorem dX3_carryOut_78 : decode cX3_carryOut 78 = .ok (.goto 42, 3) := by decide +kernel
theorem dX3_carryOut_81 : decode cX3_carryOut 81 = .ok (.aload_n 0, 1) := by decide +kernel
theorem dX3_carryOut_82 : decode cX3_carryOut 82 = .ok (.getfield 11, 3) := by decide +kernel
theorem dX3_carryOut_85 : decode cX3_carryOut 85 = .ok (.iload_n 2, 1) := by decide +kernel
theorem dX3_carryOut_86 : decode cX3_carryOut 86 = .ok (.aaload, 1) := by decide +kernel
theorem dX3_carryOut_87 : decode cX3_carryOut 87 = .ok (.iconst 1, 1) := by decide +kernel
theorem dX3_carryOut_88 : decode cX3_carryOut 88 = .ok (.putfield 65, 3) := by decide +kernel
theorem dX3_carryOut_91 : decode cX3_carryOut 91 = .ok (.goto 29, 3) := by decide +kernel
theorem dX3_carryOut_94 : decode cX3_carryOut 94 = .ok (.aload_n 0, 1) := by decide +kernel
theorem dX3_carryOut_95 : decode cX3_carryOut 95 = .ok (.getfield 11, 3) := by decide +kernel
theorem dX3_carryOut_98 : decode cX3_carryOut 98 = .ok (.iload_n 2, 1) := by decide +kernel
theorem dX3_carryOut_99 : decode cX3_carryOut 99 = .ok (.aaload, 1) := by decide +kernel
theorem dX3_carryOut_100 : decode cX3_carryOut 100 = .ok (.iconst 0, 1) := by decide +kernel
theorem dX3_carryOut_101 : decode cX3_carryOut 101 = .ok (.putfield 65, 3) := by decide +kernel
theorem dX3_carryOut_104 : decode cX3_carryOut 104 = .ok (.goto 16, 3) := by decide +kernel
theorem dX3_carryOut_107 : decode cX3_carryOut 107 = .ok (.aload_n 0, 1) := by decide +kernel
theorem dX3_carryOut_108 : decode cX3_carryOut 108 = .ok (.getfield 11, 3) := by decide +kernel
theorem dX3_carryOut_111 : decode cX3_carryOut 111 = .ok (.iload_n 2, 1) := by decide +kernel
theorem dX3_carryOut_112 : decode cX3_carryOut 112 = .ok (.aaload, 1) := by decide +kernel
theorem dX3_carryOut_113 : decode cX3_carryOut 113 = .ok (.iconst 2, 1) := by decide +kernel
theorem dX3_carryOut_114 : decode cX3_carryOut 114 = .ok (.putfield 65, 3) := by decide +kernel
theorem dX3_carryOut_117 : decode cX3_carryOut 117 = .ok (.goto 3, 3) := by decide +kernel
theorem dX3_carryOut_120 : decode cX3_carryOut 120 = .ok (.return_, 1) := by decide +kernel
