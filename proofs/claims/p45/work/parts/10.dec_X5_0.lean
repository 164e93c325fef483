theorem dX5_init_0 : decode cX5_init 0 = .ok (.aload_n 0, 1) := by decide +kernel
theorem dX5_init_1 : decode cX5_init 1 = .ok (.invokespecial 3, 3) := by decide +kernel
theorem dX5_init_4 : decode cX5_init 4 = .ok (.aload_n 0, 1) := by decide +kernel
theorem dX5_init_5 : decode cX5_init 5 = .ok (.new 9, 3) := by decide +kernel
theorem dX5_init_8 : decode cX5_init 8 = .ok (.dup, 1) := by decide +kernel
theorem dX5_init_9 : decode cX5_init 9 = .ok (.invokespecial 11, 3) := by decide +kernel
theorem dX5_init_12 : decode cX5_init 12 = .ok (.putfield 12, 3) := by decide +kernel
theorem dX5_init_15 : decode cX5_init 15 = .ok (.aload_n 0, 1) := by decide +kernel
theorem dX5_init_16 : decode cX5_init 16 = .ok (.bipush 6, 2) := by decide +kernel
theorem dX5_init_18 : decode cX5_init 18 = .ok (.newarray .int, 2) := by decide +kernel
theorem dX5_init_20 : decode cX5_init 20 = .ok (.putfield 18, 3) := by decide +kernel
theorem dX5_init_23 : decode cX5_init 23 = .ok (.return_, 1) := by decide +kernel
theorem dX5_isWellTold_0 : decode cX5_isWellTold 0 = .ok (.iconst 0, 1) := by decide +kernel
theorem dX5_isWellTold_1 : decode cX5_isWellTold 1 = .ok (.istore 5, 2) := by decide +kernel
theorem dX5_isWellTold_3 : decode cX5_isWellTold 3 = .ok (.iload 5, 2) := by decide +kernel
theorem dX5_isWellTold_5 : decode cX5_isWellTold 5 = .ok (.iconst 1, 1) := by decide +kernel
theorem dX5_isWellTold_6 : decode cX5_isWellTold 6 = .ok (.iadd, 1) := by decide +kernel
theorem dX5_isWellTold_7 : decode cX5_isWellTold 7 = .ok (.aload_n 3, 1) := by decide +kernel
theorem dX5_isWellTold_8 : decode cX5_isWellTold 8 = .ok (.iload 4, 2) := by decide +kernel
theorem dX5_isWellTold_10 : decode cX5_isWellTold 10 = .ok (.invokevirtual 22, 3) := by decide +kernel
theorem dX5_isWellTold_13 : decode cX5_isWellTold 13 = .ok (.if_icmp .ge 60, 3) := by decide +kernel
theorem dX5_isWellTold_16 : decode cX5_isWellTold 16 = .ok (.aload_n 3, 1) := by decide +kernel
theorem dX5_isWellTold_17 : decode cX5_isWellTold 17 = .ok (.iload 4, 2) := by decide +kernel
theorem dX5_isWellTold_19 : decode cX5_isWellTold 19 = .ok (.iload 5, 2) := by decide +kernel
theorem dX5_isWellTold_21 : decode cX5_isWellTold 21 = .ok (.invokevirtual 28, 3) := by decide +kernel
theorem dX5_isWellTold_24 : decode cX5_isWellTold 24 = .ok (.istore 6, 2) := by decide +kernel
theorem dX5_isWellTold_26 : decode cX5_isWellTold 26 = .ok (.aload_n 3, 1) := by decide +kernel
theorem dX5_isWellTold_27 : decode cX5_isWellTold 27 = .ok (.iload 4, 2) := by decide +kernel
theorem dX5_isWellTold_29 : decode cX5_isWellTold 29 = .ok (.iload 5, 2) := by decide +kernel
theorem dX5_isWellTold_31 : decode cX5_isWellTold 31 = .ok (.iconst 1, 1) := by decide +kernel
theorem dX5_isWellTold_32 : decode cX5_isWellTold 32 = .ok (.iadd, 1) := by decide +kernel
theorem dX5_isWellTold_33 : decode cX5_isWellTold 33 = .ok (.invokevirtual 28, 3) := by decide +kernel
theorem dX5_isWellTold_36 : decode cX5_isWellTold 36 = .ok (.istore 7, 2) := by decide +kernel
theorem dX5_isWellTold_38 : decode cX5_isWellTold 38 = .ok (.aload_n 1, 1) := by decide +kernel
theorem dX5_isWellTold_39 : decode cX5_isWellTold 39 = .ok (.iload 6, 2) := by decide +kernel
theorem dX5_isWellTold_41 : decode cX5_isWellTold 41 = .ok (.invokevirtual 32, 3) := by decide +kernel
theorem dX5_isWellTold_44 : decode cX5_isWellTold 44 = .ok (.ifCond .eq 21, 3) := by decide +kernel
theorem dX5_isWellTold_47 : decode cX5_isWellTold 47 = .ok (.iload 6, 2) := by decide +kernel
theorem dX5_isWellTold_49 : decode cX5_isWellTold 49 = .ok (.iload_n 2, 1) := by decide +kernel
theorem dX5_isWellTold_50 : decode cX5_isWellTold 50 = .ok (.if_icmp .eq 15, 3) := by decide +kernel
theorem dX5_isWellTold_53 : decode cX5_isWellTold 53 = .ok (.iload 7, 2) := by decide +kernel
theorem dX5_isWellTold_55 : decode cX5_isWellTold 55 = .ok (.ifCond .ge 12, 3) := by decide +kernel
theorem dX5_isWellTold_58 : decode cX5_isWellTold 58 = .ok (.iload 7, 2) := by decide +kernel
theorem dX5_isWellTold_60 : decode cX5_isWellTold 60 = .ok (.bipush (-9), 2) := by decide +kernel
theorem dX5_isWellTold_62 : decode cX5_isWellTold 62 = .ok (.if_icmp .eq 5, 3) := by decide +kernel
theorem dX5_isWellTold_65 : decode cX5_isWellTold 65 = .ok (.iconst 0, 1) := by decide +kernel
theorem dX5_isWellTold_66 : decode cX5_isWellTold 66 = .ok (.ireturn, 1) := by decide +kernel
theorem dX5_isWellTold_67 : decode cX5_isWellTold 67 = .ok (.iinc 5 2, 3) := by decide +kernel
theorem dX5_isWellTold_70 : decode cX5_isWellTold 70 = .ok (.goto (-67), 3) := by decide +kernel
theorem dX5_isWellTold_73 : decode cX5_isWellTold 73 = .ok (.iconst 1, 1) := by decide +kernel
theorem dX5_isWellTold_74 : decode cX5_isWellTold 74 = .ok (.ireturn, 1) := by decide +kernel
theorem dX5_agrees_0 : decode cX5_agrees 0 = .ok (.iconst 0, 1) := by decide +kernel
theorem dX5_agrees_1 : decode cX5_agrees 1 = .ok (.istore 4, 2) := by decide +kernel
theorem dX5_agrees_3 : decode cX5_agrees 3 = .ok (.iload 4, 2) := by decide +kernel
theorem dX5_agrees_5 : decode cX5_agrees 5 = .ok (.iconst 1, 1) := by decide +kernel
theorem dX5_agrees_6 : decode cX5_agrees 6 = .ok (.iadd, 1) := by decide +kernel
theorem dX5_agrees_7 : decode cX5_agrees 7 = .ok (.aload_n 2, 1) := by decide +kernel
theorem dX5_agrees_8 : decode cX5_agrees 8 = .ok (.iload_n 3, 1) := by decide +kernel
theorem dX5_agrees_9 : decode cX5_agrees 9 = .ok (.invokevirtual 22, 3) := by decide +kernel
theorem dX5_agrees_12 : decode cX5_agrees 12 = .ok (.if_icmp .ge 57, 3) := by decide +kernel
theorem dX5_agrees_15 : decode cX5_agrees 15 = .ok (.aload_n 2, 1) := by decide +kernel
theorem dX5_agrees_16 : decode cX5_agrees 16 = .ok (.iload_n 3, 1) := by decide +kernel
theorem dX5_agrees_17 : decode cX5_agrees 17 = .ok (.iload 4, 2) := by decide +kernel
theorem dX5_agrees_19 : decode cX5_agrees 19 = .ok (.invokevirtual 28, 3) := by decide +kernel
theorem dX5_agrees_22 : decode cX5_agrees 22 = .ok (.istore 5, 2) := by decide +kernel
theorem dX5_agrees_24 : decode cX5_agrees 24 = .ok (.aload_n 1, 1) := by decide +kernel
theorem dX5_agrees_25 : decode cX5_agrees 25 = .ok (.iload 5, 2) := by decide +kernel
theorem dX5_agrees_27 : decode cX5_agrees 27 = .ok (.invokevirtual 32, 3) := by decide +kernel
theorem dX5_agrees_30 : decode cX5_agrees 30 = .ok (.ifCond .ne 5, 3) := by decide +kernel
theorem dX5_agrees_33 : decode cX5_agrees 33 = .ok (.iconst 0, 1) := by decide +kernel
theorem dX5_agrees_34 : decode cX5_agrees 34 = .ok (.ireturn, 1) := by decide +kernel
theorem dX5_agrees_35 : decode cX5_agrees 35 = .ok (.aload_n 0, 1) := by decide +kernel
theorem dX5_agrees_36 : decode cX5_agrees 36 = .ok (.getfield 12, 3) := by decide +kernel
theorem dX5_agrees_39 : decode cX5_agrees 39 = .ok (.aload_n 1, 1) := by decide +kernel
theorem dX5_agrees_40 : decode cX5_agrees 40 = .ok (.getfield 38, 3) := by decide +kernel
theorem dX5_agrees_43 : decode cX5_agrees 43 = .ok (.iload 5, 2) := by decide +kernel
theorem dX5_agrees_45 : decode cX5_agrees 45 = .ok (.aaload, 1) := by decide +kernel
theorem dX5_agrees_46 : decode cX5_agrees 46 = .ok (.invokevirtual 42, 3) := by decide +kernel
theorem dX5_agrees_49 : decode cX5_agrees 49 = .ok (.aload_n 2, 1) := by decide +kernel
theorem dX5_agrees_50 : decode cX5_agrees 50 = .ok (.iload_n 3, 1) := by decide +kernel
theorem dX5_agrees_51 : decode cX5_agrees 51 = .ok (.iload 4, 2) := by decide +kernel
theorem dX5_agrees_53 : decode cX5_agrees 53 = .ok (.iconst 1, 1) := by decide +kernel
theorem dX5_agrees_54 : decode cX5_agrees 54 = .ok (.iadd, 1) := by decide +kernel
theorem dX5_agrees_55 : decode cX5_agrees 55 = .ok (.invokevirtual 28, 3) := by decide +kernel
theorem dX5_agrees_58 : decode cX5_agrees 58 = .ok (.if_icmp .eq 5, 3) := by decide +kernel
theorem dX5_agrees_61 : decode cX5_agrees 61 = .ok (.iconst 0, 1) := by decide +kernel
theorem dX5_agrees_62 : decode cX5_agrees 62 = .ok (.ireturn, 1) := by decide +kernel
theorem dX5_agrees_63 : decode cX5_agrees 63 = .ok (.iinc 4 2, 3) := by decide +kernel
theorem dX5_agrees_66 : decode cX5_agrees 66 = .ok (.goto (-63), 3) := by decide +kernel
theorem dX5_agrees_69 : decode cX5_agrees 69 = .ok (.iconst 1, 1) := by decide +kernel
theorem dX5_agrees_70 : decode cX5_agrees 70 = .ok (.ireturn, 1) := by decide +kernel
theorem dX5_sortsLeft_0 : decode cX5_sortsLeft 0 = .ok (.iconst 0, 1) := by decide +kernel
theorem dX5_sortsLeft_1 : decode cX5_sortsLeft 1 = .ok (.istore 5, 2) := by decide +kernel
theorem dX5_sortsLeft_3 : decode cX5_sortsLeft 3 = .ok (.aload_n 0, 1) := by decide +kernel
theorem dX5_sortsLeft_4 : decode cX5_sortsLeft 4 = .ok (.getfield 12, 3) := by decide +kernel
theorem dX5_sortsLeft_7 : decode cX5_sortsLeft 7 = .ok (.aload_n 1, 1) := by decide +kernel
theorem dX5_sortsLeft_8 : decode cX5_sortsLeft 8 = .ok (.getfield 38, 3) := by decide +kernel
theorem dX5_sortsLeft_11 : decode cX5_sortsLeft 11 = .ok (.iload_n 2, 1) := by decide +kernel
theorem dX5_sortsLeft_12 : decode cX5_sortsLeft 12 = .ok (.aaload, 1) := by decide +kernel
theorem dX5_sortsLeft_13 : decode cX5_sortsLeft 13 = .ok (.invokevirtual 46, 3) := by decide +kernel
theorem dX5_sortsLeft_16 : decode cX5_sortsLeft 16 = .ok (.iconst 0, 1) := by decide +kernel
theorem dX5_sortsLeft_17 : decode cX5_sortsLeft 17 = .ok (.istore 6, 2) := by decide +kernel
theorem dX5_sortsLeft_19 : decode cX5_sortsLeft 19 = .ok (.iload 6, 2) := by decide +kernel
theorem dX5_sortsLeft_21 : decode cX5_sortsLeft 21 = .ok (.bipush 10, 2) := by decide +kernel
theorem dX5_sortsLeft_23 : decode cX5_sortsLeft 23 = .ok (.if_icmp .ge 38, 3) := by decide +kernel
theorem dX5_sortsLeft_26 : decode cX5_sortsLeft 26 = .ok (.aload_n 0, 1) := by decide +kernel
theorem dX5_sortsLeft_27 : decode cX5_sortsLeft 27 = .ok (.getfield 12, 3) := by decide +kernel
theorem dX5_sortsLeft_30 : decode cX5_sortsLeft 30 = .ok (.iload 6, 2) := by decide +kernel
theorem dX5_sortsLeft_32 : decode cX5_sortsLeft 32 = .ok (.putfield 50, 3) := by decide +kernel
theorem dX5_sortsLeft_35 : decode cX5_sortsLeft 35 = .ok (.aload_n 0, 1) := by decide +kernel
theorem dX5_sortsLeft_36 : decode cX5_sortsLeft 36 = .ok (.aload_n 1, 1) := by decide +kernel
theorem dX5_sortsLeft_37 : decode cX5_sortsLeft 37 = .ok (.aload_n 3, 1) := by decide +kernel
theorem dX5_sortsLeft_38 : decode cX5_sortsLeft 38 = .ok (.iload 4, 2) := by decide +kernel
theorem dX5_sortsLeft_40 : decode cX5_sortsLeft 40 = .ok (.invokevirtual 54, 3) := by decide +kernel
theorem dX5_sortsLeft_43 : decode cX5_sortsLeft 43 = .ok (.ifCond .eq 12, 3) := by decide +kernel
theorem dX5_sortsLeft_46 : decode cX5_sortsLeft 46 = .ok (.iload 5, 2) := by decide +kernel
theorem dX5_sortsLeft_48 : decode cX5_sortsLeft 48 = .ok (.iconst 1, 1) := by decide +kernel
theorem dX5_sortsLeft_49 : decode cX5_sortsLeft 49 = .ok (.iload 6, 2) := by decide +kernel
theorem dX5_sortsLeft_51 : decode cX5_sortsLeft 51 = .ok (.ishl, 1) := by decide +kernel
theorem dX5_sortsLeft_52 : decode cX5_sortsLeft 52 = .ok (.ior, 1) := by decide +kernel
theorem dX5_sortsLeft_53 : decode cX5_sortsLeft 53 = .ok (.istore 5, 2) := by decide +kernel
theorem dX5_sortsLeft_55 : decode cX5_sortsLeft 55 = .ok (.iinc 6 1, 3) := by decide +kernel
theorem dX5_sortsLeft_58 : decode cX5_sortsLeft 58 = .ok (.goto (-39), 3) := by decide +kernel
theorem dX5_sortsLeft_61 : decode cX5_sortsLeft 61 = .ok (.iload 5, 2) := by decide +kernel
theorem dX5_sortsLeft_63 : decode cX5_sortsLeft 63 = .ok (.ireturn, 1) := by decide +kernel
theorem dX5_handsLeft_0 : decode cX5_handsLeft 0 = .ok (.iconst 0, 1) := by decide +kernel
theorem dX5_handsLeft_1 : decode cX5_handsLeft 1 = .ok (.istore 5, 2) := by decide +kernel
theorem dX5_handsLeft_3 : decode cX5_handsLeft 3 = .ok (.aload_n 0, 1) := by decide +kernel
theorem dX5_handsLeft_4 : decode cX5_handsLeft 4 = .ok (.getfield 12, 3) := by decide +kernel
theorem dX5_handsLeft_7 : decode cX5_handsLeft 7 = .ok (.aload_n 1, 1) := by decide +kernel
theorem dX5_handsLeft_8 : decode cX5_handsLeft 8 = .ok (.getfield 38, 3) := by decide +kernel
theorem dX5_handsLeft_11 : decode cX5_handsLeft 11 = .ok (.iload_n 2, 1) := by decide +kernel
theorem dX5_handsLeft_12 : decode cX5_handsLeft 12 = .ok (.aaload, 1) := by decide +kernel
theorem dX5_handsLeft_13 : decode cX5_handsLeft 13 = .ok (.invokevirtual 46, 3) := by decide +kernel
theorem dX5_handsLeft_16 : decode cX5_handsLeft 16 = .ok (.iconst 0, 1) := by decide +kernel
theorem dX5_handsLeft_17 : decode cX5_handsLeft 17 = .ok (.istore 6, 2) := by decide +kernel
theorem dX5_handsLeft_19 : decode cX5_handsLeft 19 = .ok (.iload 6, 2) := by decide +kernel
theorem dX5_handsLeft_21 : decode cX5_handsLeft 21 = .ok (.iconst 2, 1) := by decide +kernel
theorem dX5_handsLeft_22 : decode cX5_handsLeft 22 = .ok (.if_icmp .ge 38, 3) := by decide +kernel
theorem dX5_handsLeft_25 : decode cX5_handsLeft 25 = .ok (.aload_n 0, 1) := by decide +kernel
theorem dX5_handsLeft_26 : decode cX5_handsLeft 26 = .ok (.getfield 12, 3) := by decide +kernel
theorem dX5_handsLeft_29 : decode cX5_handsLeft 29 = .ok (.iload 6, 2) := by decide +kernel
theorem dX5_handsLeft_31 : decode cX5_handsLeft 31 = .ok (.putfield 58, 3) := by decide +kernel
theorem dX5_handsLeft_34 : decode cX5_handsLeft 34 = .ok (.aload_n 0, 1) := by decide +kernel
theorem dX5_handsLeft_35 : decode cX5_handsLeft 35 = .ok (.aload_n 1, 1) := by decide +kernel
theorem dX5_handsLeft_36 : decode cX5_handsLeft 36 = .ok (.aload_n 3, 1) := by decide +kernel
theorem dX5_handsLeft_37 : decode cX5_handsLeft 37 = .ok (.iload 4, 2) := by decide +kernel
theorem dX5_handsLeft_39 : decode cX5_handsLeft 39 = .ok (.invokevirtual 54, 3) := by decide +kernel
theorem dX5_handsLeft_42 : decode cX5_handsLeft 42 = .ok (.ifCond .eq 12, 3) := by decide +kernel
theorem dX5_handsLeft_45 : decode cX5_handsLeft 45 = .ok (.iload 5, 2) := by decide +kernel
theorem dX5_handsLeft_47 : decode cX5_handsLeft 47 = .ok (.iconst 1, 1) := by decide +kernel
theorem dX5_handsLeft_48 : decode cX5_handsLeft 48 = .ok (.iload 6, 2) := by decide +kernel
theorem dX5_handsLeft_50 : decode cX5_handsLeft 50 = .ok (.ishl, 1) := by decide +kernel
theorem dX5_handsLeft_51 : decode cX5_handsLeft 51 = .ok (.ior, 1) := by decide +kernel
theorem dX5_handsLeft_52 : decode cX5_handsLeft 52 = .ok (.istore 5, 2) := by decide +kernel
theorem dX5_handsLeft_54 : decode cX5_handsLeft 54 = .ok (.iinc 6 1, 3) := by decide +kernel
theorem dX5_handsLeft_57 : decode cX5_handsLeft 57 = .ok (.goto (-38), 3) := by decide +kernel
theorem dX5_handsLeft_60 : decode cX5_handsLeft 60 = .ok (.iload 5, 2) := by decide +kernel
theorem dX5_handsLeft_62 : decode cX5_handsLeft 62 = .ok (.ireturn, 1) := by decide +kernel
theorem dX5_kindsLeft_0 : decode cX5_kindsLeft 0 = .ok (.iconst 0, 1) := by decide +kernel
theorem dX5_kindsLeft_1 : decode cX5_kindsLeft 1 = .ok (.istore 5, 2) := by decide +kernel
theorem dX5_kindsLeft_3 : decode cX5_kindsLeft 3 = .ok (.aload_n 0, 1) := by decide +kernel
theorem dX5_kindsLeft_4 : decode cX5_kindsLeft 4 = .ok (.getfield 12, 3) := by decide +kernel
theorem dX5_kindsLeft_7 : decode cX5_kindsLeft 7 = .ok (.aload_n 1, 1) := by decide +kernel
theorem dX5_kindsLeft_8 : decode cX5_kindsLeft 8 = .ok (.getfield 38, 3) := by decide +kernel
theorem dX5_kindsLeft_11 : decode cX5_kindsLeft 11 = .ok (.iload_n 2, 1) := by decide +kernel
theorem dX5_kindsLeft_12 : decode cX5_kindsLeft 12 = .ok (.aaload, 1) := by decide +kernel
theorem dX5_kindsLeft_13 : decode cX5_kindsLeft 13 = .ok (.invokevirtual 46, 3) := by decide +kernel
theorem dX5_kindsLeft_16 : decode cX5_kindsLeft 16 = .ok (.iconst 0, 1) := by decide +kernel
theorem dX5_kindsLeft_17 : decode cX5_kindsLeft 17 = .ok (.istore 6, 2) := by decide +kernel
theorem dX5_kindsLeft_19 : decode cX5_kindsLeft 19 = .ok (.iload 6, 2) := by decide +kernel
theorem dX5_kindsLeft_21 : decode cX5_kindsLeft 21 = .ok (.bipush 6, 2) := by decide +kernel
theorem dX5_kindsLeft_23 : decode cX5_kindsLeft 23 = .ok (.if_icmp .ge 38, 3) := by decide +kernel
theorem dX5_kindsLeft_26 : decode cX5_kindsLeft 26 = .ok (.aload_n 0, 1) := by decide +kernel
theorem dX5_kindsLeft_27 : decode cX5_kindsLeft 27 = .ok (.getfield 12, 3) := by decide +kernel
theorem dX5_kindsLeft_30 : decode cX5_kindsLeft 30 = .ok (.iload 6, 2) := by decide +kernel
theorem dX5_kindsLeft_32 : decode cX5_kindsLeft 32 = .ok (.putfield 61, 3) := by decide +kernel
theorem dX5_kindsLeft_35 : decode cX5_kindsLeft 35 = .ok (.aload_n 0, 1) := by decide +kernel
theorem dX5_kindsLeft_36 : decode cX5_kindsLeft 36 = .ok (.aload_n 1, 1) := by decide +kernel
theorem dX5_kindsLeft_37 : decode cX5_kindsLeft 37 = .ok (.aload_n 3, 1) := by decide +kernel
theorem dX5_kindsLeft_38 : decode cX5_kindsLeft 38 = .ok (.iload 4, 2) := by decide +kernel
theorem dX5_kindsLeft_40 : decode cX5_kindsLeft 40 = .ok (.invokevirtual 54, 3) := by decide +kernel
theorem dX5_kindsLeft_43 : decode cX5_kindsLeft 43 = .ok (.ifCond .eq 12, 3) := by decide +kernel
theorem dX5_kindsLeft_46 : decode cX5_kindsLeft 46 = .ok (.iload 5, 2) := by decide +kernel
theorem dX5_kindsLeft_48 : decode cX5_kindsLeft 48 = .ok (.iconst 1, 1) := by decide +kernel
theorem dX5_kindsLeft_49 : decode cX5_kindsLeft 49 = .ok (.iload 6, 2) := by decide +kernel
theorem dX5_kindsLeft_51 : decode cX5_kindsLeft 51 = .ok (.ishl, 1) := by decide +kernel
theorem dX5_kindsLeft_52 : decode cX5_kindsLeft 52 = .ok (.ior, 1) := by decide +kernel
theorem dX5_kindsLeft_53 : decode cX5_kindsLeft 53 = .ok (.istore 5, 2) := by decide +kernel
theorem dX5_kindsLeft_55 : decode cX5_kindsLeft 55 = .ok (.iinc 6 1, 3) := by decide +kernel
theorem dX5_kindsLeft_58 : decode cX5_kindsLeft 58 = .ok (.goto (-39), 3) := by decide +kernel
theorem dX5_kindsLeft_61 : decode cX5_kindsLeft 61 = .ok (.iload 5, 2) := by decide +kernel
theorem dX5_kindsLeft_63 : decode cX5_kindsLeft 63 = .ok (.ireturn, 1) := by decide +kernel
theorem dX5_nextTry_0 : decode cX5_nextTry 0 = .ok (.bipush (-9), 2) := by decide +kernel
theorem dX5_nextTry_2 : decode cX5_nextTry 2 = .ok (.istore 4, 2) := by decide +kernel
theorem dX5_nextTry_4 : decode cX5_nextTry 4 = .ok (.bipush 7, 2) := by decide +kernel
theorem dX5_nextTry_6 : decode cX5_nextTry 6 = .ok (.istore 5, 2) := by decide +kernel
theorem dX5_nextTry_8 : decode cX5_nextTry 8 = .ok (.iconst 0, 1) := by decide +kernel
theorem dX5_nextTry_9 : decode cX5_nextTry 9 = .ok (.istore 6, 2) := by decide +kernel
theorem dX5_nextTry_11 : decode cX5_nextTry 11 = .ok (.iload 6, 2) := by decide +kernel
theorem dX5_nextTry_13 : decode cX5_nextTry 13 = .ok (.aload_n 1, 1) := by decide +kernel
theorem dX5_nextTry_14 : decode cX5_nextTry 14 = .ok (.getfield 64, 3) := by decide +kernel
theorem dX5_nextTry_17 : decode cX5_nextTry 17 = .ok (.if_icmp .ge 41, 3) := by decide +kernel
theorem dX5_nextTry_20 : decode cX5_nextTry 20 = .ok (.iload 6, 2) := by decide +kernel
theorem dX5_nextTry_22 : decode cX5_nextTry 22 = .ok (.iload_n 2, 1) := by decide +kernel
theorem dX5_nextTry_23 : decode cX5_nextTry 23 = .ok (.if_icmp .eq 29, 3) := by decide +kernel
theorem dX5_nextTry_26 : decode cX5_nextTry 26 = .ok (.aload_n 0, 1) := by decide +kernel
theorem dX5_nextTry_27 : decode cX5_nextTry 27 = .ok (.aload_n 1, 1) := by decide +kernel
theorem dX5_nextTry_28 : decode cX5_nextTry 28 = .ok (.iload_n 2, 1) := by decide +kernel
theorem dX5_nextTry_29 : decode cX5_nextTry 29 = .ok (.iload_n 3, 1) := by decide +kernel
theorem dX5_nextTry_30 : decode cX5_nextTry 30 = .ok (.iload 6, 2) := by decide +kernel
theorem dX5_nextTry_32 : decode cX5_nextTry 32 = .ok (.invokevirtual 67, 3) := by decide +kernel
theorem dX5_nextTry_35 : decode cX5_nextTry 35 = .ok (.istore 7, 2) := by decide +kernel
theorem dX5_nextTry_37 : decode cX5_nextTry 37 = .ok (.iload 7, 2) := by decide +kernel
theorem dX5_nextTry_39 : decode cX5_nextTry 39 = .ok (.iload 5, 2) := by decide +kernel
theorem dX5_nextTry_41 : decode cX5_nextTry 41 = .ok (.if_icmp .ge 11, 3) := by decide +kernel
theorem dX5_nextTry_44 : decode cX5_nextTry 44 = .ok (.iload 6, 2) := by decide +kernel
theorem dX5_nextTry_46 : decode cX5_nextTry 46 = .ok (.istore 4, 2) := by decide +kernel
theorem dX5_nextTry_48 : decode cX5_nextTry 48 = .ok (.iload 7, 2) := by decide +kernel
theorem dX5_nextTry_50 : decode cX5_nextTry 50 = .ok (.istore 5, 2) := by decide +kernel
theorem dX5_nextTry_52 : decode cX5_nextTry 52 = .ok (.iinc 6 1, 3) := by decide +kernel
theorem dX5_nextTry_55 : decode cX5_nextTry 55 = .ok (.goto (-44), 3) := by decide +kernel
theorem dX5_nextTry_58 : decode cX5_nextTry 58 = .ok (.iload 4, 2) := by decide +kernel
theorem dX5_nextTry_60 : decode cX5_nextTry 60 = .ok (.ireturn, 1) := by decide +kernel
theorem dX5_greatestPart_0 : decode cX5_greatestPart 0 = .ok (.aload_n 1, 1) := by decide +kernel
theorem dX5_greatestPart_1 : decode cX5_greatestPart 1 = .ok (.iload_n 2, 1) := by decide +kernel
theorem dX5_greatestPart_2 : decode cX5_greatestPart 2 = .ok (.invokevirtual 32, 3) := by decide +kernel
theorem dX5_greatestPart_5 : decode cX5_greatestPart 5 = .ok (.ifCond .eq 12, 3) := by decide +kernel
theorem dX5_greatestPart_8 : decode cX5_greatestPart 8 = .ok (.aload_n 1, 1) := by decide +kernel
theorem dX5_greatestPart_9 : decode cX5_greatestPart 9 = .ok (.iload 4, 2) := by decide +kernel
theorem dX5_greatestPart_11 : decode cX5_greatestPart 11 = .ok (.invokevirtual 32, 3) := by decide +kernel
theorem dX5_greatestPart_14 : decode cX5_greatestPart 14 = .ok (.ifCond .ne 5, 3) := by decide +kernel
theorem dX5_greatestPart_17 : decode cX5_greatestPart 17 = .ok (.iconst 0, 1) := by decide +kernel
theorem dX5_greatestPart_18 : decode cX5_greatestPart 18 = .ok (.ireturn, 1) := by decide +kernel
theorem dX5_greatestPart_19 : decode cX5_greatestPart 19 = .ok (.aload_n 0, 1) := by decide +kernel
theorem dX5_greatestPart_20 : decode cX5_greatestPart 20 = .ok (.getfield 12, 3) := by decide +kernel
theorem dX5_greatestPart_23 : decode cX5_greatestPart 23 = .ok (.aload_n 1, 1) := by decide +kernel
theorem dX5_greatestPart_24 : decode cX5_greatestPart 24 = .ok (.getfield 38, 3) := by decide +kernel
theorem dX5_greatestPart_27 : decode cX5_greatestPart 27 = .ok (.iload_n 2, 1) := by decide +kernel
theorem dX5_greatestPart_28 : decode cX5_greatestPart 28 = .ok (.aaload, 1) := by decide +kernel
theorem dX5_greatestPart_29 : decode cX5_greatestPart 29 = .ok (.invokevirtual 46, 3) := by decide +kernel
theorem dX5_greatestPart_32 : decode cX5_greatestPart 32 = .ok (.iconst 0, 1) := by decide +kernel
theorem dX5_greatestPart_33 : decode cX5_greatestPart 33 = .ok (.istore 5, 2) := by decide +kernel
theorem dX5_greatestPart_35 : decode cX5_greatestPart 35 = .ok (.iconst 0, 1) := by decide +kernel
theorem dX5_greatestPart_36 : decode cX5_greatestPart 36 = .ok (.istore 6, 2) := by decide +kernel
theorem dX5_greatestPart_38 : decode cX5_greatestPart 38 = .ok (.iload 6, 2) := by decide +kernel
theorem dX5_greatestPart_40 : decode cX5_greatestPart 40 = .ok (.bipush 6, 2) := by decide +kernel
theorem dX5_greatestPart_42 : decode cX5_greatestPart 42 = .ok (.if_icmp .ge 39, 3) := by decide +kernel
theorem dX5_greatestPart_45 : decode cX5_greatestPart 45 = .ok (.aload_n 0, 1) := by decide +kernel
theorem dX5_greatestPart_46 : decode cX5_greatestPart 46 = .ok (.getfield 12, 3) := by decide +kernel
theorem dX5_greatestPart_49 : decode cX5_greatestPart 49 = .ok (.iload 6, 2) := by decide +kernel
theorem dX5_greatestPart_51 : decode cX5_greatestPart 51 = .ok (.putfield 61, 3) := by decide +kernel
theorem dX5_greatestPart_54 : decode cX5_greatestPart 54 = .ok (.aload_n 0, 1) := by decide +kernel
theorem dX5_greatestPart_55 : decode cX5_greatestPart 55 = .ok (.getfield 18, 3) := by decide +kernel
theorem dX5_greatestPart_58 : decode cX5_greatestPart 58 = .ok (.iload 6, 2) := by decide +kernel
theorem dX5_greatestPart_60 : decode cX5_greatestPart 60 = .ok (.aload_n 0, 1) := by decide +kernel
theorem dX5_greatestPart_61 : decode cX5_greatestPart 61 = .ok (.getfield 12, 3) := by decide +kernel
theorem dX5_greatestPart_64 : decode cX5_greatestPart 64 = .ok (.aload_n 1, 1) := by decide +kernel
theorem dX5_greatestPart_65 : decode cX5_greatestPart 65 = .ok (.getfield 38, 3) := by decide +kernel
theorem dX5_greatestPart_68 : decode cX5_greatestPart 68 = .ok (.iload 4, 2) := by decide +kernel
theorem dX5_greatestPart_70 : decode cX5_greatestPart 70 = .ok (.aaload, 1) := by decide +kernel
theorem dX5_greatestPart_71 : decode cX5_greatestPart 71 = .ok (.invokevirtual 42, 3) := by decide +kernel
theorem dX5_greatestPart_74 : decode cX5_greatestPart 74 = .ok (.iastore, 1) := by decide +kernel
theorem dX5_greatestPart_75 : decode cX5_greatestPart 75 = .ok (.iinc 6 1, 3) := by decide +kernel
theorem dX5_greatestPart_78 : decode cX5_greatestPart 78 = .ok (.goto (-40), 3) := by decide +kernel
theorem dX5_greatestPart_81 : decode cX5_greatestPart 81 = .ok (.iconst 0, 1) := by decide +kernel
theorem dX5_greatestPart_82 : decode cX5_greatestPart 82 = .ok (.istore 6, 2) := by decide +kernel
theorem dX5_greatestPart_84 : decode cX5_greatestPart 84 = .ok (.iload 6, 2) := by decide +kernel
theorem dX5_greatestPart_86 : decode cX5_greatestPart 86 = .ok (.bipush 6, 2) := by decide +kernel
theorem dX5_greatestPart_88 : decode cX5_greatestPart 88 = .ok (.if_icmp .ge 37, 3) := by decide +kernel
theorem dX5_greatestPart_91 : decode cX5_greatestPart 91 = .ok (.iload_n 3, 1) := by decide +kernel
theorem dX5_greatestPart_92 : decode cX5_greatestPart 92 = .ok (.iconst 1, 1) := by decide +kernel
theorem dX5_greatestPart_93 : decode cX5_greatestPart 93 = .ok (.iload 6, 2) := by decide +kernel
theorem dX5_greatestPart_95 : decode cX5_greatestPart 95 = .ok (.ishl, 1) := by decide +kernel
theorem dX5_greatestPart_96 : decode cX5_greatestPart 96 = .ok (.iand, 1) := by decide +kernel
theorem dX5_greatestPart_97 : decode cX5_greatestPart 97 = .ok (.ifCond .eq 22, 3) := by decide +kernel
theorem dX5_greatestPart_100 : decode cX5_greatestPart 100 = .ok (.iload 5, 2) := by decide +kernel
theorem dX5_greatestPart_102 : decode cX5_greatestPart 102 = .ok (.aload_n 0, 1) := by decide +kernel
theorem dX5_greatestPart_103 : decode cX5_greatestPart 103 = .ok (.iload_n 3, 1) := by decide +kernel
theorem dX5_greatestPart_104 : decode cX5_greatestPart 104 = .ok (.aload_n 0, 1) := by decide +kernel
theorem dX5_greatestPart_105 : decode cX5_greatestPart 105 = .ok (.getfield 18, 3) := by decide +kernel
theorem dX5_greatestPart_108 : decode cX5_greatestPart 108 = .ok (.iload 6, 2) := by decide +kernel
theorem dX5_greatestPart_110 : decode cX5_greatestPart 110 = .ok (.iaload, 1) := by decide +kernel
theorem dX5_greatestPart_111 : decode cX5_greatestPart 111 = .ok (.invokevirtual 71, 3) := by decide +kernel
theorem dX5_greatestPart_114 : decode cX5_greatestPart 114 = .ok (.invokestatic 74, 3) := by decide +kernel
theorem dX5_greatestPart_117 : decode cX5_greatestPart 117 = .ok (.istore 5, 2) := by decide +kernel
theorem dX5_greatestPart_119 : decode cX5_greatestPart 119 = .ok (.iinc 6 1, 3) := by decide +kernel
theorem dX5_greatestPart_122 : decode cX5_greatestPart 122 = .ok (.goto (-38), 3) := by decide +kernel
theorem dX5_greatestPart_125 : decode cX5_greatestPart 125 = .ok (.iload 5, 2) := by decide +kernel
theorem dX5_greatestPart_127 : decode cX5_greatestPart 127 = .ok (.ireturn, 1) := by decide +kernel
theorem dX5_howManyLike_0 : decode cX5_howManyLike 0 = .ok (.iconst 0, 1) := by decide +kernel
theorem dX5_howManyLike_1 : decode cX5_howManyLike 1 = .ok (.istore_n 3, 1) := by decide +kernel
theorem dX5_howManyLike_2 : decode cX5_howManyLike 2 = .ok (.iconst 0, 1) := by decide +kernel
theorem dX5_howManyLike_3 : decode cX5_howManyLike 3 = .ok (.istore 4, 2) := by decide +kernel
theorem dX5_howManyLike_5 : decode cX5_howManyLike 5 = .ok (.iload 4, 2) := by decide +kernel
theorem dX5_howManyLike_7 : decode cX5_howManyLike 7 = .ok (.bipush 6, 2) := by decide +kernel
theorem dX5_howManyLike_9 : decode cX5_howManyLike 9 = .ok (.if_icmp .ge 32, 3) := by decide +kernel
theorem dX5_howManyLike_12 : decode cX5_howManyLike 12 = .ok (.iload_n 1, 1) := by decide +kernel
theorem dX5_howManyLike_13 : decode cX5_howManyLike 13 = .ok (.iconst 1, 1) := by decide +kernel
theorem dX5_howManyLike_14 : decode cX5_howManyLike 14 = .ok (.iload 4, 2) := by decide +kernel
theorem dX5_howManyLike_16 : decode cX5_howManyLike 16 = .ok (.ishl, 1) := by decide +kernel
theorem dX5_howManyLike_17 : decode cX5_howManyLike 17 = .ok (.iand, 1) := by decide +kernel
theorem dX5_howManyLike_18 : decode cX5_howManyLike 18 = .ok (.ifCond .eq 17, 3) := by decide +kernel
theorem dX5_howManyLike_21 : decode cX5_howManyLike 21 = .ok (.aload_n 0, 1) := by decide +kernel
theorem dX5_howManyLike_22 : decode cX5_howManyLike 22 = .ok (.getfield 18, 3) := by decide +kernel
theorem dX5_howManyLike_25 : decode cX5_howManyLike 25 = .ok (.iload 4, 2) := by decide +kernel
theorem dX5_howManyLike_27 : decode cX5_howManyLike 27 = .ok (.iaload, 1) := by decide +kernel
theorem dX5_howManyLike_28 : decode cX5_howManyLike 28 = .ok (.iload_n 2, 1) := by decide +kernel
theorem dX5_howManyLike_29 : decode cX5_howManyLike 29 = .ok (.if_icmp .ne 6, 3) := by decide +kernel
theorem dX5_howManyLike_32 : decode cX5_howManyLike 32 = .ok (.iinc 3 1, 3) := by decide +kernel
theorem dX5_howManyLike_35 : decode cX5_howManyLike 35 = .ok (.iinc 4 1, 3) := by decide +kernel
theorem dX5_howManyLike_38 : decode cX5_howManyLike 38 = .ok (.goto (-33), 3) := by decide +kernel
theorem dX5_howManyLike_41 : decode cX5_howManyLike 41 = .ok (.iload_n 3, 1) := by decide +kernel
theorem dX5_howManyLike_42 : decode cX5_howManyLike 42 = .ok (.ireturn, 1) := by decide +kernel
theorem dX5_gainOfStretch_0 : decode cX5_gainOfStretch 0 = .ok (.iconst 0, 1) := by decide +kernel
theorem dX5_gainOfStretch_1 : decode cX5_gainOfStretch 1 = .ok (.istore_n 3, 1) := by decide +kernel
theorem dX5_gainOfStretch_2 : decode cX5_gainOfStretch 2 = .ok (.aload_n 0, 1) := by decide +kernel
theorem dX5_gainOfStretch_3 : decode cX5_gainOfStretch 3 = .ok (.getfield 12, 3) := by decide +kernel
theorem dX5_gainOfStretch_6 : decode cX5_gainOfStretch 6 = .ok (.aload_n 1, 1) := by decide +kernel
theorem dX5_gainOfStretch_7 : decode cX5_gainOfStretch 7 = .ok (.getfield 38, 3) := by decide +kernel
theorem dX5_gainOfStretch_10 : decode cX5_gainOfStretch 10 = .ok (.iload_n 2, 1) := by decide +kernel
theorem dX5_gainOfStretch_11 : decode cX5_gainOfStretch 11 = .ok (.aaload, 1) := by decide +kernel
theorem dX5_gainOfStretch_12 : decode cX5_gainOfStretch 12 = .ok (.invokevirtual 46, 3) := by decide +kernel
theorem dX5_gainOfStretch_15 : decode cX5_gainOfStretch 15 = .ok (.aload_n 0, 1) := by decide +kernel
theorem dX5_gainOfStretch_16 : decode cX5_gainOfStretch 16 = .ok (.getfield 12, 3) := by decide +kernel
theorem dX5_gainOfStretch_19 : decode cX5_gainOfStretch 19 = .ok (.iconst 2, 1) := by decide +kernel
theorem dX5_gainOfStretch_20 : decode cX5_gainOfStretch 20 = .ok (.putfield 61, 3) := by decide +kernel
theorem dX5_gainOfStretch_23 : decode cX5_gainOfStretch 23 = .ok (.iconst 0, 1) := by decide +kernel
theorem dX5_gainOfStretch_24 : decode cX5_gainOfStretch 24 = .ok (.istore 4, 2) := by decide +kernel
theorem dX5_gainOfStretch_26 : decode cX5_gainOfStretch 26 = .ok (.iload 4, 2) := by decide +kernel
theorem dX5_gainOfStretch_28 : decode cX5_gainOfStretch 28 = .ok (.aload_n 1, 1) := by decide +kernel
theorem dX5_gainOfStretch_29 : decode cX5_gainOfStretch 29 = .ok (.getfield 64, 3) := by decide +kernel
theorem dX5_gainOfStretch_32 : decode cX5_gainOfStretch 32 = .ok (.if_icmp .ge 58, 3) := by decide +kernel
theorem dX5_gainOfStretch_35 : decode cX5_gainOfStretch 35 = .ok (.iload 4, 2) := by decide +kernel
theorem dX5_gainOfStretch_37 : decode cX5_gainOfStretch 37 = .ok (.iload_n 2, 1) := by decide +kernel
theorem dX5_gainOfStretch_38 : decode cX5_gainOfStretch 38 = .ok (.if_icmp .eq 46, 3) := by decide +kernel
theorem dX5_gainOfStretch_41 : decode cX5_gainOfStretch 41 = .ok (.aload_n 1, 1) := by decide +kernel
theorem dX5_gainOfStretch_42 : decode cX5_gainOfStretch 42 = .ok (.iload 4, 2) := by decide +kernel
theorem dX5_gainOfStretch_44 : decode cX5_gainOfStretch 44 = .ok (.invokevirtual 79, 3) := by decide +kernel
theorem dX5_gainOfStretch_47 : decode cX5_gainOfStretch 47 = .ok (.ifCond .eq 37, 3) := by decide +kernel
theorem dX5_gainOfStretch_50 : decode cX5_gainOfStretch 50 = .ok (.iload_n 3, 1) := by decide +kernel
theorem dX5_gainOfStretch_51 : decode cX5_gainOfStretch 51 = .ok (.aload_n 1, 1) := by decide +kernel
theorem dX5_gainOfStretch_52 : decode cX5_gainOfStretch 52 = .ok (.getfield 38, 3) := by decide +kernel
theorem dX5_gainOfStretch_55 : decode cX5_gainOfStretch 55 = .ok (.iload_n 2, 1) := by decide +kernel
theorem dX5_gainOfStretch_56 : decode cX5_gainOfStretch 56 = .ok (.aaload, 1) := by decide +kernel
theorem dX5_gainOfStretch_57 : decode cX5_gainOfStretch 57 = .ok (.aload_n 1, 1) := by decide +kernel
theorem dX5_gainOfStretch_58 : decode cX5_gainOfStretch 58 = .ok (.getfield 38, 3) := by decide +kernel
theorem dX5_gainOfStretch_61 : decode cX5_gainOfStretch 61 = .ok (.iload 4, 2) := by decide +kernel
theorem dX5_gainOfStretch_63 : decode cX5_gainOfStretch 63 = .ok (.aaload, 1) := by decide +kernel
theorem dX5_gainOfStretch_64 : decode cX5_gainOfStretch 64 = .ok (.invokevirtual 42, 3) := by decide +kernel
theorem dX5_gainOfStretch_67 : decode cX5_gainOfStretch 67 = .ok (.aload_n 0, 1) := by decide +kernel
theorem dX5_gainOfStretch_68 : decode cX5_gainOfStretch 68 = .ok (.getfield 12, 3) := by decide +kernel
theorem dX5_gainOfStretch_71 : decode cX5_gainOfStretch 71 = .ok (.aload_n 1, 1) := by decide +kernel
theorem dX5_gainOfStretch_72 : decode cX5_gainOfStretch 72 = .ok (.getfield 38, 3) := by decide +kernel
theorem dX5_gainOfStretch_75 : decode cX5_gainOfStretch 75 = .ok (.iload 4, 2) := by decide +kernel
theorem dX5_gainOfStretch_77 : decode cX5_gainOfStretch 77 = .ok (.aaload, 1) := by decide +kernel
theorem dX5_gainOfStretch_78 : decode cX5_gainOfStretch 78 = .ok (.invokevirtual 42, 3) := by decide +kernel
theorem dX5_gainOfStretch_81 : decode cX5_gainOfStretch 81 = .ok (.isub, 1) := by decide +kernel
theorem dX5_gainOfStretch_82 : decode cX5_gainOfStretch 82 = .ok (.iadd, 1) := by decide +kernel
theorem dX5_gainOfStretch_83 : decode cX5_gainOfStretch 83 = .ok (.istore_n 3, 1) := by decide +kernel
theorem dX5_gainOfStretch_84 : decode cX5_gainOfStretch 84 = .ok (.iinc 4 1, 3) := by decide +kernel
theorem dX5_gainOfStretch_87 : decode cX5_gainOfStretch 87 = .ok (.goto (-61), 3) := by decide +kernel
theorem dX5_gainOfStretch_90 : decode cX5_gainOfStretch 90 = .ok (.iload_n 3, 1) := by decide +kernel
theorem dX5_gainOfStretch_91 : decode cX5_gainOfStretch 91 = .ok (.ireturn, 1) := by decide +kernel
