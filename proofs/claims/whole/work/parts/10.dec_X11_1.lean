theorem dX11_warmthAs_93 : decode cX11_warmthAs 93 = .ok (.iload_n 3, 1) := by decide +kernel
theorem dX11_warmthAs_94 : decode cX11_warmthAs 94 = .ok (.ireturn, 1) := by decide +kernel
theorem dX11_warmthAs_95 : decode cX11_warmthAs 95 = .ok (.iload_n 3, 1) := by decide +kernel
theorem dX11_warmthAs_96 : decode cX11_warmthAs 96 = .ok (.ireturn, 1) := by decide +kernel
theorem dX11_goesOn_0 : decode cX11_goesOn 0 = .ok (.iload_n 0, 1) := by decide +kernel
theorem dX11_goesOn_1 : decode cX11_goesOn 1 = .ok (.iconst 2, 1) := by decide +kernel
theorem dX11_goesOn_2 : decode cX11_goesOn 2 = .ok (.invokestatic 164, 3) := by decide +kernel
theorem dX11_goesOn_5 : decode cX11_goesOn 5 = .ok (.ifCond .eq 7, 3) := by decide +kernel
theorem dX11_goesOn_8 : decode cX11_goesOn 8 = .ok (.iconst 3, 1) := by decide +kernel
theorem dX11_goesOn_9 : decode cX11_goesOn 9 = .ok (.goto 6, 3) := by decide +kernel
theorem dX11_goesOn_12 : decode cX11_goesOn 12 = .ok (.iconst 1, 1) := by decide +kernel
theorem dX11_goesOn_13 : decode cX11_goesOn 13 = .ok (.iload_n 1, 1) := by decide +kernel
theorem dX11_goesOn_14 : decode cX11_goesOn 14 = .ok (.ishl, 1) := by decide +kernel
theorem dX11_goesOn_15 : decode cX11_goesOn 15 = .ok (.ireturn, 1) := by decide +kernel
theorem dX11_pairAs_0 : decode cX11_pairAs 0 = .ok (.iload_n 2, 1) := by decide +kernel
theorem dX11_pairAs_1 : decode cX11_pairAs 1 = .ok (.iload 4, 2) := by decide +kernel
theorem dX11_pairAs_3 : decode cX11_pairAs 3 = .ok (.invokestatic 168, 3) := by decide +kernel
theorem dX11_pairAs_6 : decode cX11_pairAs 6 = .ok (.istore 6, 2) := by decide +kernel
theorem dX11_pairAs_8 : decode cX11_pairAs 8 = .ok (.aload_n 0, 1) := by decide +kernel
theorem dX11_pairAs_9 : decode cX11_pairAs 9 = .ok (.getfield 41, 3) := by decide +kernel
theorem dX11_pairAs_12 : decode cX11_pairAs 12 = .ok (.iload 5, 2) := by decide +kernel
theorem dX11_pairAs_14 : decode cX11_pairAs 14 = .ok (.iaload, 1) := by decide +kernel
theorem dX11_pairAs_15 : decode cX11_pairAs 15 = .ok (.aload_n 0, 1) := by decide +kernel
theorem dX11_pairAs_16 : decode cX11_pairAs 16 = .ok (.getfield 47, 3) := by decide +kernel
theorem dX11_pairAs_19 : decode cX11_pairAs 19 = .ok (.iload 5, 2) := by decide +kernel
theorem dX11_pairAs_21 : decode cX11_pairAs 21 = .ok (.iaload, 1) := by decide +kernel
theorem dX11_pairAs_22 : decode cX11_pairAs 22 = .ok (.invokestatic 168, 3) := by decide +kernel
theorem dX11_pairAs_25 : decode cX11_pairAs 25 = .ok (.istore 7, 2) := by decide +kernel
theorem dX11_pairAs_27 : decode cX11_pairAs 27 = .ok (.iload 6, 2) := by decide +kernel
theorem dX11_pairAs_29 : decode cX11_pairAs 29 = .ok (.iload 7, 2) := by decide +kernel
theorem dX11_pairAs_31 : decode cX11_pairAs 31 = .ok (.if_icmp .ne 12, 3) := by decide +kernel
theorem dX11_pairAs_34 : decode cX11_pairAs 34 = .ok (.iload 6, 2) := by decide +kernel
theorem dX11_pairAs_36 : decode cX11_pairAs 36 = .ok (.iconst 3, 1) := by decide +kernel
theorem dX11_pairAs_37 : decode cX11_pairAs 37 = .ok (.if_icmp .eq 6, 3) := by decide +kernel
theorem dX11_pairAs_40 : decode cX11_pairAs 40 = .ok (.bipush (-9), 2) := by decide +kernel
theorem dX11_pairAs_42 : decode cX11_pairAs 42 = .ok (.ireturn, 1) := by decide +kernel
theorem dX11_pairAs_43 : decode cX11_pairAs 43 = .ok (.iload_n 3, 1) := by decide +kernel
theorem dX11_pairAs_44 : decode cX11_pairAs 44 = .ok (.aload_n 0, 1) := by decide +kernel
theorem dX11_pairAs_45 : decode cX11_pairAs 45 = .ok (.getfield 44, 3) := by decide +kernel
theorem dX11_pairAs_48 : decode cX11_pairAs 48 = .ok (.iload 5, 2) := by decide +kernel
theorem dX11_pairAs_50 : decode cX11_pairAs 50 = .ok (.iaload, 1) := by decide +kernel
theorem dX11_pairAs_51 : decode cX11_pairAs 51 = .ok (.if_icmp .ge 15, 3) := by decide +kernel
theorem dX11_pairAs_54 : decode cX11_pairAs 54 = .ok (.aload_n 0, 1) := by decide +kernel
theorem dX11_pairAs_55 : decode cX11_pairAs 55 = .ok (.getfield 44, 3) := by decide +kernel
theorem dX11_pairAs_58 : decode cX11_pairAs 58 = .ok (.iload 5, 2) := by decide +kernel
theorem dX11_pairAs_60 : decode cX11_pairAs 60 = .ok (.iaload, 1) := by decide +kernel
theorem dX11_pairAs_61 : decode cX11_pairAs 61 = .ok (.iload_n 3, 1) := by decide +kernel
theorem dX11_pairAs_62 : decode cX11_pairAs 62 = .ok (.isub, 1) := by decide +kernel
theorem dX11_pairAs_63 : decode cX11_pairAs 63 = .ok (.goto 12, 3) := by decide +kernel
theorem dX11_pairAs_66 : decode cX11_pairAs 66 = .ok (.iload_n 3, 1) := by decide +kernel
theorem dX11_pairAs_67 : decode cX11_pairAs 67 = .ok (.aload_n 0, 1) := by decide +kernel
theorem dX11_pairAs_68 : decode cX11_pairAs 68 = .ok (.getfield 44, 3) := by decide +kernel
theorem dX11_pairAs_71 : decode cX11_pairAs 71 = .ok (.iload 5, 2) := by decide +kernel
theorem dX11_pairAs_73 : decode cX11_pairAs 73 = .ok (.iaload, 1) := by decide +kernel
theorem dX11_pairAs_74 : decode cX11_pairAs 74 = .ok (.isub, 1) := by decide +kernel
theorem dX11_pairAs_75 : decode cX11_pairAs 75 = .ok (.istore 8, 2) := by decide +kernel
theorem dX11_pairAs_77 : decode cX11_pairAs 77 = .ok (.iload_n 2, 1) := by decide +kernel
theorem dX11_pairAs_78 : decode cX11_pairAs 78 = .ok (.iconst 5, 1) := by decide +kernel
theorem dX11_pairAs_79 : decode cX11_pairAs 79 = .ok (.if_icmp .eq 14, 3) := by decide +kernel
theorem dX11_pairAs_82 : decode cX11_pairAs 82 = .ok (.aload_n 0, 1) := by decide +kernel
theorem dX11_pairAs_83 : decode cX11_pairAs 83 = .ok (.getfield 41, 3) := by decide +kernel
theorem dX11_pairAs_86 : decode cX11_pairAs 86 = .ok (.iload 5, 2) := by decide +kernel
theorem dX11_pairAs_88 : decode cX11_pairAs 88 = .ok (.iaload, 1) := by decide +kernel
theorem dX11_pairAs_89 : decode cX11_pairAs 89 = .ok (.iconst 5, 1) := by decide +kernel
theorem dX11_pairAs_90 : decode cX11_pairAs 90 = .ok (.if_icmp .ne 7, 3) := by decide +kernel
theorem dX11_pairAs_93 : decode cX11_pairAs 93 = .ok (.iconst 1, 1) := by decide +kernel
theorem dX11_pairAs_94 : decode cX11_pairAs 94 = .ok (.goto 4, 3) := by decide +kernel
theorem dX11_pairAs_97 : decode cX11_pairAs 97 = .ok (.iconst 0, 1) := by decide +kernel
theorem dX11_pairAs_98 : decode cX11_pairAs 98 = .ok (.istore 9, 2) := by decide +kernel
theorem dX11_pairAs_100 : decode cX11_pairAs 100 = .ok (.aload_n 0, 1) := by decide +kernel
theorem dX11_pairAs_101 : decode cX11_pairAs 101 = .ok (.iload_n 2, 1) := by decide +kernel
theorem dX11_pairAs_102 : decode cX11_pairAs 102 = .ok (.iload_n 1, 1) := by decide +kernel
theorem dX11_pairAs_103 : decode cX11_pairAs 103 = .ok (.invokevirtual 171, 3) := by decide +kernel
theorem dX11_pairAs_106 : decode cX11_pairAs 106 = .ok (.aload_n 0, 1) := by decide +kernel
theorem dX11_pairAs_107 : decode cX11_pairAs 107 = .ok (.aload_n 0, 1) := by decide +kernel
theorem dX11_pairAs_108 : decode cX11_pairAs 108 = .ok (.getfield 41, 3) := by decide +kernel
theorem dX11_pairAs_111 : decode cX11_pairAs 111 = .ok (.iload 5, 2) := by decide +kernel
theorem dX11_pairAs_113 : decode cX11_pairAs 113 = .ok (.iaload, 1) := by decide +kernel
theorem dX11_pairAs_114 : decode cX11_pairAs 114 = .ok (.iload 5, 2) := by decide +kernel
theorem dX11_pairAs_116 : decode cX11_pairAs 116 = .ok (.invokevirtual 171, 3) := by decide +kernel
theorem dX11_pairAs_119 : decode cX11_pairAs 119 = .ok (.iadd, 1) := by decide +kernel
theorem dX11_pairAs_120 : decode cX11_pairAs 120 = .ok (.iload 9, 2) := by decide +kernel
theorem dX11_pairAs_122 : decode cX11_pairAs 122 = .ok (.ifCond .eq 7, 3) := by decide +kernel
theorem dX11_pairAs_125 : decode cX11_pairAs 125 = .ok (.iconst 0, 1) := by decide +kernel
theorem dX11_pairAs_126 : decode cX11_pairAs 126 = .ok (.goto 7, 3) := by decide +kernel
theorem dX11_pairAs_129 : decode cX11_pairAs 129 = .ok (.iconst 2, 1) := by decide +kernel
theorem dX11_pairAs_130 : decode cX11_pairAs 130 = .ok (.iload 8, 2) := by decide +kernel
theorem dX11_pairAs_132 : decode cX11_pairAs 132 = .ok (.imul, 1) := by decide +kernel
theorem dX11_pairAs_133 : decode cX11_pairAs 133 = .ok (.isub, 1) := by decide +kernel
theorem dX11_pairAs_134 : decode cX11_pairAs 134 = .ok (.istore 10, 2) := by decide +kernel
theorem dX11_pairAs_136 : decode cX11_pairAs 136 = .ok (.iload 10, 2) := by decide +kernel
theorem dX11_pairAs_138 : decode cX11_pairAs 138 = .ok (.ifCond .ge 7, 3) := by decide +kernel
theorem dX11_pairAs_141 : decode cX11_pairAs 141 = .ok (.iconst 0, 1) := by decide +kernel
theorem dX11_pairAs_142 : decode cX11_pairAs 142 = .ok (.goto 5, 3) := by decide +kernel
theorem dX11_pairAs_145 : decode cX11_pairAs 145 = .ok (.iload 10, 2) := by decide +kernel
theorem dX11_pairAs_147 : decode cX11_pairAs 147 = .ok (.ireturn, 1) := by decide +kernel
theorem dX11_pairOf_0 : decode cX11_pairOf 0 = .ok (.aload_n 0, 1) := by decide +kernel
theorem dX11_pairOf_1 : decode cX11_pairOf 1 = .ok (.iload_n 1, 1) := by decide +kernel
theorem dX11_pairOf_2 : decode cX11_pairOf 2 = .ok (.aload_n 0, 1) := by decide +kernel
theorem dX11_pairOf_3 : decode cX11_pairOf 3 = .ok (.getfield 41, 3) := by decide +kernel
theorem dX11_pairOf_6 : decode cX11_pairOf 6 = .ok (.iload_n 1, 1) := by decide +kernel
theorem dX11_pairOf_7 : decode cX11_pairOf 7 = .ok (.iaload, 1) := by decide +kernel
theorem dX11_pairOf_8 : decode cX11_pairOf 8 = .ok (.aload_n 0, 1) := by decide +kernel
theorem dX11_pairOf_9 : decode cX11_pairOf 9 = .ok (.getfield 44, 3) := by decide +kernel
theorem dX11_pairOf_12 : decode cX11_pairOf 12 = .ok (.iload_n 1, 1) := by decide +kernel
theorem dX11_pairOf_13 : decode cX11_pairOf 13 = .ok (.iaload, 1) := by decide +kernel
theorem dX11_pairOf_14 : decode cX11_pairOf 14 = .ok (.aload_n 0, 1) := by decide +kernel
theorem dX11_pairOf_15 : decode cX11_pairOf 15 = .ok (.getfield 47, 3) := by decide +kernel
theorem dX11_pairOf_18 : decode cX11_pairOf 18 = .ok (.iload_n 1, 1) := by decide +kernel
theorem dX11_pairOf_19 : decode cX11_pairOf 19 = .ok (.iaload, 1) := by decide +kernel
theorem dX11_pairOf_20 : decode cX11_pairOf 20 = .ok (.iload_n 2, 1) := by decide +kernel
theorem dX11_pairOf_21 : decode cX11_pairOf 21 = .ok (.invokevirtual 174, 3) := by decide +kernel
theorem dX11_pairOf_24 : decode cX11_pairOf 24 = .ok (.ireturn, 1) := by decide +kernel
theorem dX11_setIn_0 : decode cX11_setIn 0 = .ok (.iconst 0, 1) := by decide +kernel
theorem dX11_setIn_1 : decode cX11_setIn 1 = .ok (.istore_n 2, 1) := by decide +kernel
theorem dX11_setIn_2 : decode cX11_setIn 2 = .ok (.iconst 0, 1) := by decide +kernel
theorem dX11_setIn_3 : decode cX11_setIn 3 = .ok (.istore_n 3, 1) := by decide +kernel
theorem dX11_setIn_4 : decode cX11_setIn 4 = .ok (.iload_n 3, 1) := by decide +kernel
theorem dX11_setIn_5 : decode cX11_setIn 5 = .ok (.aload_n 0, 1) := by decide +kernel
theorem dX11_setIn_6 : decode cX11_setIn 6 = .ok (.getfield 155, 3) := by decide +kernel
theorem dX11_setIn_9 : decode cX11_setIn 9 = .ok (.if_icmp .ge 29, 3) := by decide +kernel
theorem dX11_setIn_12 : decode cX11_setIn 12 = .ok (.iload_n 2, 1) := by decide +kernel
theorem dX11_setIn_13 : decode cX11_setIn 13 = .ok (.aload_n 0, 1) := by decide +kernel
theorem dX11_setIn_14 : decode cX11_setIn 14 = .ok (.getfield 53, 3) := by decide +kernel
theorem dX11_setIn_17 : decode cX11_setIn 17 = .ok (.iload_n 3, 1) := by decide +kernel
theorem dX11_setIn_18 : decode cX11_setIn 18 = .ok (.iaload, 1) := by decide +kernel
theorem dX11_setIn_19 : decode cX11_setIn 19 = .ok (.iload_n 1, 1) := by decide +kernel
theorem dX11_setIn_20 : decode cX11_setIn 20 = .ok (.if_icmp .ne 9, 3) := by decide +kernel
theorem dX11_setIn_23 : decode cX11_setIn 23 = .ok (.iconst 1, 1) := by decide +kernel
theorem dX11_setIn_24 : decode cX11_setIn 24 = .ok (.iload_n 3, 1) := by decide +kernel
theorem dX11_setIn_25 : decode cX11_setIn 25 = .ok (.ishl, 1) := by decide +kernel
theorem dX11_setIn_26 : decode cX11_setIn 26 = .ok (.goto 4, 3) := by decide +kernel
theorem dX11_setIn_29 : decode cX11_setIn 29 = .ok (.iconst 0, 1) := by decide +kernel
theorem dX11_setIn_30 : decode cX11_setIn 30 = .ok (.ior, 1) := by decide +kernel
theorem dX11_setIn_31 : decode cX11_setIn 31 = .ok (.istore_n 2, 1) := by decide +kernel
theorem dX11_setIn_32 : decode cX11_setIn 32 = .ok (.iinc 3 1, 3) := by decide +kernel
theorem dX11_setIn_35 : decode cX11_setIn 35 = .ok (.goto (-31), 3) := by decide +kernel
theorem dX11_setIn_38 : decode cX11_setIn 38 = .ok (.iload_n 2, 1) := by decide +kernel
theorem dX11_setIn_39 : decode cX11_setIn 39 = .ok (.ireturn, 1) := by decide +kernel
theorem dX11_manyOf_0 : decode cX11_manyOf 0 = .ok (.iconst 0, 1) := by decide +kernel
theorem dX11_manyOf_1 : decode cX11_manyOf 1 = .ok (.istore_n 1, 1) := by decide +kernel
theorem dX11_manyOf_2 : decode cX11_manyOf 2 = .ok (.iconst 0, 1) := by decide +kernel
theorem dX11_manyOf_3 : decode cX11_manyOf 3 = .ok (.istore_n 2, 1) := by decide +kernel
theorem dX11_manyOf_4 : decode cX11_manyOf 4 = .ok (.iload_n 2, 1) := by decide +kernel
theorem dX11_manyOf_5 : decode cX11_manyOf 5 = .ok (.bipush 8, 2) := by decide +kernel
theorem dX11_manyOf_7 : decode cX11_manyOf 7 = .ok (.if_icmp .ge 17, 3) := by decide +kernel
theorem dX11_manyOf_10 : decode cX11_manyOf 10 = .ok (.iload_n 1, 1) := by decide +kernel
theorem dX11_manyOf_11 : decode cX11_manyOf 11 = .ok (.iload_n 0, 1) := by decide +kernel
theorem dX11_manyOf_12 : decode cX11_manyOf 12 = .ok (.iload_n 2, 1) := by decide +kernel
theorem dX11_manyOf_13 : decode cX11_manyOf 13 = .ok (.ishr, 1) := by decide +kernel
theorem dX11_manyOf_14 : decode cX11_manyOf 14 = .ok (.iconst 1, 1) := by decide +kernel
theorem dX11_manyOf_15 : decode cX11_manyOf 15 = .ok (.iand, 1) := by decide +kernel
theorem dX11_manyOf_16 : decode cX11_manyOf 16 = .ok (.iadd, 1) := by decide +kernel
theorem dX11_manyOf_17 : decode cX11_manyOf 17 = .ok (.istore_n 1, 1) := by decide +kernel
theorem dX11_manyOf_18 : decode cX11_manyOf 18 = .ok (.iinc 2 1, 3) := by decide +kernel
theorem dX11_manyOf_21 : decode cX11_manyOf 21 = .ok (.goto (-17), 3) := by decide +kernel
theorem dX11_manyOf_24 : decode cX11_manyOf 24 = .ok (.iload_n 1, 1) := by decide +kernel
theorem dX11_manyOf_25 : decode cX11_manyOf 25 = .ok (.ireturn, 1) := by decide +kernel
theorem dX11_inDrawer_0 : decode cX11_inDrawer 0 = .ok (.aload_n 0, 1) := by decide +kernel
theorem dX11_inDrawer_1 : decode cX11_inDrawer 1 = .ok (.iconst 0, 1) := by decide +kernel
theorem dX11_inDrawer_2 : decode cX11_inDrawer 2 = .ok (.invokevirtual 178, 3) := by decide +kernel
theorem dX11_inDrawer_5 : decode cX11_inDrawer 5 = .ok (.invokestatic 181, 3) := by decide +kernel
theorem dX11_inDrawer_8 : decode cX11_inDrawer 8 = .ok (.ireturn, 1) := by decide +kernel
theorem dX11_happen_0 : decode cX11_happen 0 = .ok (.iload_n 1, 1) := by decide +kernel
theorem dX11_happen_1 : decode cX11_happen 1 = .ok (.tableswitch 84 0 3 #[31, 54, 64, 74], 31) := by decide +kernel
theorem dX11_happen_32 : decode cX11_happen 32 = .ok (.aload_n 0, 1) := by decide +kernel
theorem dX11_happen_33 : decode cX11_happen 33 = .ok (.getfield 56, 3) := by decide +kernel
theorem dX11_happen_36 : decode cX11_happen 36 = .ok (.iload_n 2, 1) := by decide +kernel
theorem dX11_happen_37 : decode cX11_happen 37 = .ok (.dup2, 1) := by decide +kernel
theorem dX11_happen_38 : decode cX11_happen 38 = .ok (.iaload, 1) := by decide +kernel
theorem dX11_happen_39 : decode cX11_happen 39 = .ok (.iconst 1, 1) := by decide +kernel
theorem dX11_happen_40 : decode cX11_happen 40 = .ok (.iadd, 1) := by decide +kernel
theorem dX11_happen_41 : decode cX11_happen 41 = .ok (.iastore, 1) := by decide +kernel
theorem dX11_happen_42 : decode cX11_happen 42 = .ok (.aload_n 0, 1) := by decide +kernel
theorem dX11_happen_43 : decode cX11_happen 43 = .ok (.getfield 56, 3) := by decide +kernel
theorem dX11_happen_46 : decode cX11_happen 46 = .ok (.iload_n 3, 1) := by decide +kernel
theorem dX11_happen_47 : decode cX11_happen 47 = .ok (.dup2, 1) := by decide +kernel
theorem dX11_happen_48 : decode cX11_happen 48 = .ok (.iaload, 1) := by decide +kernel
theorem dX11_happen_49 : decode cX11_happen 49 = .ok (.iconst 1, 1) := by decide +kernel
theorem dX11_happen_50 : decode cX11_happen 50 = .ok (.iadd, 1) := by decide +kernel
theorem dX11_happen_51 : decode cX11_happen 51 = .ok (.iastore, 1) := by decide +kernel
theorem dX11_happen_52 : decode cX11_happen 52 = .ok (.goto 33, 3) := by decide +kernel
theorem dX11_happen_55 : decode cX11_happen 55 = .ok (.aload_n 0, 1) := by decide +kernel
theorem dX11_happen_56 : decode cX11_happen 56 = .ok (.getfield 53, 3) := by decide +kernel
theorem dX11_happen_59 : decode cX11_happen 59 = .ok (.iload_n 2, 1) := by decide +kernel
theorem dX11_happen_60 : decode cX11_happen 60 = .ok (.iconst 1, 1) := by decide +kernel
theorem dX11_happen_61 : decode cX11_happen 61 = .ok (.iastore, 1) := by decide +kernel
theorem dX11_happen_62 : decode cX11_happen 62 = .ok (.goto 23, 3) := by decide +kernel
theorem dX11_happen_65 : decode cX11_happen 65 = .ok (.aload_n 0, 1) := by decide +kernel
theorem dX11_happen_66 : decode cX11_happen 66 = .ok (.getfield 53, 3) := by decide +kernel
theorem dX11_happen_69 : decode cX11_happen 69 = .ok (.iload_n 2, 1) := by decide +kernel
theorem dX11_happen_70 : decode cX11_happen 70 = .ok (.iconst 0, 1) := by decide +kernel
theorem dX11_happen_71 : decode cX11_happen 71 = .ok (.iastore, 1) := by decide +kernel
theorem dX11_happen_72 : decode cX11_happen 72 = .ok (.goto 13, 3) := by decide +kernel
theorem dX11_happen_75 : decode cX11_happen 75 = .ok (.aload_n 0, 1) := by decide +kernel
theorem dX11_happen_76 : decode cX11_happen 76 = .ok (.getfield 53, 3) := by decide +kernel
theorem dX11_happen_79 : decode cX11_happen 79 = .ok (.iload_n 2, 1) := by decide +kernel
theorem dX11_happen_80 : decode cX11_happen 80 = .ok (.iconst 2, 1) := by decide +kernel
theorem dX11_happen_81 : decode cX11_happen 81 = .ok (.iastore, 1) := by decide +kernel
theorem dX11_happen_82 : decode cX11_happen 82 = .ok (.goto 3, 3) := by decide +kernel
theorem dX11_happen_85 : decode cX11_happen 85 = .ok (.return_, 1) := by decide +kernel
theorem dX11_goThrough_0 : decode cX11_goThrough 0 = .ok (.iconst 0, 1) := by decide +kernel
theorem dX11_goThrough_1 : decode cX11_goThrough 1 = .ok (.istore_n 1, 1) := by decide +kernel
theorem dX11_goThrough_2 : decode cX11_goThrough 2 = .ok (.iload_n 1, 1) := by decide +kernel
theorem dX11_goThrough_3 : decode cX11_goThrough 3 = .ok (.bipush 8, 2) := by decide +kernel
theorem dX11_goThrough_5 : decode cX11_goThrough 5 = .ok (.if_icmp .ge 23, 3) := by decide +kernel
theorem dX11_goThrough_8 : decode cX11_goThrough 8 = .ok (.aload_n 0, 1) := by decide +kernel
theorem dX11_goThrough_9 : decode cX11_goThrough 9 = .ok (.getfield 53, 3) := by decide +kernel
theorem dX11_goThrough_12 : decode cX11_goThrough 12 = .ok (.iload_n 1, 1) := by decide +kernel
theorem dX11_goThrough_13 : decode cX11_goThrough 13 = .ok (.iconst 0, 1) := by decide +kernel
theorem dX11_goThrough_14 : decode cX11_goThrough 14 = .ok (.iastore, 1) := by decide +kernel
theorem dX11_goThrough_15 : decode cX11_goThrough 15 = .ok (.aload_n 0, 1) := by decide +kernel
theorem dX11_goThrough_16 : decode cX11_goThrough 16 = .ok (.getfield 56, 3) := by decide +kernel
theorem dX11_goThrough_19 : decode cX11_goThrough 19 = .ok (.iload_n 1, 1) := by decide +kernel
theorem dX11_goThrough_20 : decode cX11_goThrough 20 = .ok (.iconst 0, 1) := by decide +kernel
theorem dX11_goThrough_21 : decode cX11_goThrough 21 = .ok (.iastore, 1) := by decide +kernel
theorem dX11_goThrough_22 : decode cX11_goThrough 22 = .ok (.iinc 1 1, 3) := by decide +kernel
theorem dX11_goThrough_25 : decode cX11_goThrough 25 = .ok (.goto (-23), 3) := by decide +kernel
theorem dX11_goThrough_28 : decode cX11_goThrough 28 = .ok (.iconst 0, 1) := by decide +kernel
theorem dX11_goThrough_29 : decode cX11_goThrough 29 = .ok (.istore_n 1, 1) := by decide +kernel
theorem dX11_goThrough_30 : decode cX11_goThrough 30 = .ok (.iload_n 1, 1) := by decide +kernel
theorem dX11_goThrough_31 : decode cX11_goThrough 31 = .ok (.aload_n 0, 1) := by decide +kernel
theorem dX11_goThrough_32 : decode cX11_goThrough 32 = .ok (.getfield 158, 3) := by decide +kernel
theorem dX11_goThrough_35 : decode cX11_goThrough 35 = .ok (.if_icmp .ge 41, 3) := by decide +kernel
theorem dX11_goThrough_38 : decode cX11_goThrough 38 = .ok (.aload_n 0, 1) := by decide +kernel
theorem dX11_goThrough_39 : decode cX11_goThrough 39 = .ok (.aload_n 0, 1) := by decide +kernel
theorem dX11_goThrough_40 : decode cX11_goThrough 40 = .ok (.getfield 59, 3) := by decide +kernel
theorem dX11_goThrough_43 : decode cX11_goThrough 43 = .ok (.iconst 3, 1) := by decide +kernel
theorem dX11_goThrough_44 : decode cX11_goThrough 44 = .ok (.iload_n 1, 1) := by decide +kernel
theorem dX11_goThrough_45 : decode cX11_goThrough 45 = .ok (.imul, 1) := by decide +kernel
theorem dX11_goThrough_46 : decode cX11_goThrough 46 = .ok (.iaload, 1) := by decide +kernel
theorem dX11_goThrough_47 : decode cX11_goThrough 47 = .ok (.aload_n 0, 1) := by decide +kernel
theorem dX11_goThrough_48 : decode cX11_goThrough 48 = .ok (.getfield 59, 3) := by decide +kernel
theorem dX11_goThrough_51 : decode cX11_goThrough 51 = .ok (.iconst 3, 1) := by decide +kernel
theorem dX11_goThrough_52 : decode cX11_goThrough 52 = .ok (.iload_n 1, 1) := by decide +kernel
theorem dX11_goThrough_53 : decode cX11_goThrough 53 = .ok (.imul, 1) := by decide +kernel
theorem dX11_goThrough_54 : decode cX11_goThrough 54 = .ok (.iconst 1, 1) := by decide +kernel
theorem dX11_goThrough_55 : decode cX11_goThrough 55 = .ok (.iadd, 1) := by decide +kernel
theorem dX11_goThrough_56 : decode cX11_goThrough 56 = .ok (.iaload, 1) := by decide +kernel
theorem dX11_goThrough_57 : decode cX11_goThrough 57 = .ok (.aload_n 0, 1) := by decide +kernel
theorem dX11_goThrough_58 : decode cX11_goThrough 58 = .ok (.getfield 59, 3) := by decide +kernel
theorem dX11_goThrough_61 : decode cX11_goThrough 61 = .ok (.iconst 3, 1) := by decide +kernel
theorem dX11_goThrough_62 : decode cX11_goThrough 62 = .ok (.iload_n 1, 1) := by decide +kernel
theorem dX11_goThrough_63 : decode cX11_goThrough 63 = .ok (.imul, 1) := by decide +kernel
theorem dX11_goThrough_64 : decode cX11_goThrough 64 = .ok (.iconst 2, 1) := by decide +kernel
theorem dX11_goThrough_65 : decode cX11_goThrough 65 = .ok (.iadd, 1) := by decide +kernel
theorem dX11_goThrough_66 : decode cX11_goThrough 66 = .ok (.iaload, 1) := by decide +kernel
theorem dX11_goThrough_67 : decode cX11_goThrough 67 = .ok (.invokevirtual 184, 3) := by decide +kernel
theorem dX11_goThrough_70 : decode cX11_goThrough 70 = .ok (.iinc 1 1, 3) := by decide +kernel
theorem dX11_goThrough_73 : decode cX11_goThrough 73 = .ok (.goto (-43), 3) := by decide +kernel
theorem dX11_goThrough_76 : decode cX11_goThrough 76 = .ok (.return_, 1) := by decide +kernel
theorem dX11_does_0 : decode cX11_does 0 = .ok (.aload_n 0, 1) := by decide +kernel
theorem dX11_does_1 : decode cX11_does 1 = .ok (.getfield 59, 3) := by decide +kernel
theorem dX11_does_4 : decode cX11_does 4 = .ok (.iconst 3, 1) := by decide +kernel
theorem dX11_does_5 : decode cX11_does 5 = .ok (.aload_n 0, 1) := by decide +kernel
theorem dX11_does_6 : decode cX11_does 6 = .ok (.getfield 158, 3) := by decide +kernel
theorem dX11_does_9 : decode cX11_does 9 = .ok (.imul, 1) := by decide +kernel
theorem dX11_does_10 : decode cX11_does 10 = .ok (.iload_n 1, 1) := by decide +kernel
theorem dX11_does_11 : decode cX11_does 11 = .ok (.iastore, 1) := by decide +kernel
theorem dX11_does_12 : decode cX11_does 12 = .ok (.aload_n 0, 1) := by decide +kernel
theorem dX11_does_13 : decode cX11_does 13 = .ok (.getfield 59, 3) := by decide +kernel
theorem dX11_does_16 : decode cX11_does 16 = .ok (.iconst 3, 1) := by decide +kernel
theorem dX11_does_17 : decode cX11_does 17 = .ok (.aload_n 0, 1) := by decide +kernel
theorem dX11_does_18 : decode cX11_does 18 = .ok (.getfield 158, 3) := by decide +kernel
theorem dX11_does_21 : decode cX11_does 21 = .ok (.imul, 1) := by decide +kernel
theorem dX11_does_22 : decode cX11_does 22 = .ok (.iconst 1, 1) := by decide +kernel
theorem dX11_does_23 : decode cX11_does 23 = .ok (.iadd, 1) := by decide +kernel
theorem dX11_does_24 : decode cX11_does 24 = .ok (.iload_n 2, 1) := by decide +kernel
theorem dX11_does_25 : decode cX11_does 25 = .ok (.iastore, 1) := by decide +kernel
theorem dX11_does_26 : decode cX11_does 26 = .ok (.aload_n 0, 1) := by decide +kernel
theorem dX11_does_27 : decode cX11_does 27 = .ok (.getfield 59, 3) := by decide +kernel
theorem dX11_does_30 : decode cX11_does 30 = .ok (.iconst 3, 1) := by decide +kernel
theorem dX11_does_31 : decode cX11_does 31 = .ok (.aload_n 0, 1) := by decide +kernel
theorem dX11_does_32 : decode cX11_does 32 = .ok (.getfield 158, 3) := by decide +kernel
theorem dX11_does_35 : decode cX11_does 35 = .ok (.imul, 1) := by decide +kernel
theorem dX11_does_36 : decode cX11_does 36 = .ok (.iconst 2, 1) := by decide +kernel
theorem dX11_does_37 : decode cX11_does 37 = .ok (.iadd, 1) := by decide +kernel
theorem dX11_does_38 : decode cX11_does 38 = .ok (.iload_n 3, 1) := by decide +kernel
theorem dX11_does_39 : decode cX11_does 39 = .ok (.iastore, 1) := by decide +kernel
theorem dX11_does_40 : decode cX11_does 40 = .ok (.aload_n 0, 1) := by decide +kernel
theorem dX11_does_41 : decode cX11_does 41 = .ok (.dup, 1) := by decide +kernel
theorem dX11_does_42 : decode cX11_does 42 = .ok (.getfield 158, 3) := by decide +kernel
theorem dX11_does_45 : decode cX11_does 45 = .ok (.iconst 1, 1) := by decide +kernel
theorem dX11_does_46 : decode cX11_does 46 = .ok (.iadd, 1) := by decide +kernel
theorem dX11_does_47 : decode cX11_does 47 = .ok (.putfield 158, 3) := by decide +kernel
theorem dX11_does_50 : decode cX11_does 50 = .ok (.aload_n 0, 1) := by decide +kernel
theorem dX11_does_51 : decode cX11_does 51 = .ok (.iload_n 1, 1) := by decide +kernel
theorem dX11_does_52 : decode cX11_does 52 = .ok (.iload_n 2, 1) := by decide +kernel
theorem dX11_does_53 : decode cX11_does 53 = .ok (.iload_n 3, 1) := by decide +kernel
theorem dX11_does_54 : decode cX11_does 54 = .ok (.invokevirtual 184, 3) := by decide +kernel
theorem dX11_does_57 : decode cX11_does 57 = .ok (.return_, 1) := by decide +kernel
theorem dX11_ofGlove_0 : decode cX11_ofGlove 0 = .ok (.iload_n 2, 1) := by decide +kernel
theorem dX11_ofGlove_1 : decode cX11_ofGlove 1 = .ok (.tableswitch 86 0 5 #[39, 46, 53, 60, 67, 74], 39) := by decide +kernel
theorem dX11_ofGlove_40 : decode cX11_ofGlove 40 = .ok (.aload_n 0, 1) := by decide +kernel
theorem dX11_ofGlove_41 : decode cX11_ofGlove 41 = .ok (.getfield 41, 3) := by decide +kernel
theorem dX11_ofGlove_44 : decode cX11_ofGlove 44 = .ok (.iload_n 1, 1) := by decide +kernel
theorem dX11_ofGlove_45 : decode cX11_ofGlove 45 = .ok (.iaload, 1) := by decide +kernel
theorem dX11_ofGlove_46 : decode cX11_ofGlove 46 = .ok (.ireturn, 1) := by decide +kernel
theorem dX11_ofGlove_47 : decode cX11_ofGlove 47 = .ok (.aload_n 0, 1) := by decide +kernel
theorem dX11_ofGlove_48 : decode cX11_ofGlove 48 = .ok (.getfield 44, 3) := by decide +kernel
theorem dX11_ofGlove_51 : decode cX11_ofGlove 51 = .ok (.iload_n 1, 1) := by decide +kernel
theorem dX11_ofGlove_52 : decode cX11_ofGlove 52 = .ok (.iaload, 1) := by decide +kernel
theorem dX11_ofGlove_53 : decode cX11_ofGlove 53 = .ok (.ireturn, 1) := by decide +kernel
theorem dX11_ofGlove_54 : decode cX11_ofGlove 54 = .ok (.aload_n 0, 1) := by decide +kernel
theorem dX11_ofGlove_55 : decode cX11_ofGlove 55 = .ok (.getfield 47, 3) := by decide +kernel
theorem dX11_ofGlove_58 : decode cX11_ofGlove 58 = .ok (.iload_n 1, 1) := by decide +kernel
theorem dX11_ofGlove_59 : decode cX11_ofGlove 59 = .ok (.iaload, 1) := by decide +kernel
theorem dX11_ofGlove_60 : decode cX11_ofGlove 60 = .ok (.ireturn, 1) := by decide +kernel
theorem dX11_ofGlove_61 : decode cX11_ofGlove 61 = .ok (.aload_n 0, 1) := by decide +kernel
theorem dX11_ofGlove_62 : decode cX11_ofGlove 62 = .ok (.getfield 50, 3) := by decide +kernel
theorem dX11_ofGlove_65 : decode cX11_ofGlove 65 = .ok (.iload_n 1, 1) := by decide +kernel
theorem dX11_ofGlove_66 : decode cX11_ofGlove 66 = .ok (.iaload, 1) := by decide +kernel
theorem dX11_ofGlove_67 : decode cX11_ofGlove 67 = .ok (.ireturn, 1) := by decide +kernel
theorem dX11_ofGlove_68 : decode cX11_ofGlove 68 = .ok (.aload_n 0, 1) := by decide +kernel
theorem dX11_ofGlove_69 : decode cX11_ofGlove 69 = .ok (.getfield 56, 3) := by decide +kernel
theorem dX11_ofGlove_72 : decode cX11_ofGlove 72 = .ok (.iload_n 1, 1) := by decide +kernel
theorem dX11_ofGlove_73 : decode cX11_ofGlove 73 = .ok (.iaload, 1) := by decide +kernel
theorem dX11_ofGlove_74 : decode cX11_ofGlove 74 = .ok (.ireturn, 1) := by decide +kernel
theorem dX11_ofGlove_75 : decode cX11_ofGlove 75 = .ok (.aload_n 0, 1) := by decide +kernel
theorem dX11_ofGlove_76 : decode cX11_ofGlove 76 = .ok (.aload_n 0, 1) := by decide +kernel
theorem dX11_ofGlove_77 : decode cX11_ofGlove 77 = .ok (.getfield 41, 3) := by decide +kernel
theorem dX11_ofGlove_80 : decode cX11_ofGlove 80 = .ok (.iload_n 1, 1) := by decide +kernel
theorem dX11_ofGlove_81 : decode cX11_ofGlove 81 = .ok (.iaload, 1) := by decide +kernel
theorem dX11_ofGlove_82 : decode cX11_ofGlove 82 = .ok (.iload_n 1, 1) := by decide +kernel
theorem dX11_ofGlove_83 : decode cX11_ofGlove 83 = .ok (.invokevirtual 171, 3) := by decide +kernel
theorem dX11_ofGlove_86 : decode cX11_ofGlove 86 = .ok (.ireturn, 1) := by decide +kernel
theorem dX11_ofGlove_87 : decode cX11_ofGlove 87 = .ok (.aload_n 0, 1) := by decide +kernel
theorem dX11_ofGlove_88 : decode cX11_ofGlove 88 = .ok (.getfield 53, 3) := by decide +kernel
theorem dX11_ofGlove_91 : decode cX11_ofGlove 91 = .ok (.iload_n 1, 1) := by decide +kernel
theorem dX11_ofGlove_92 : decode cX11_ofGlove 92 = .ok (.iaload, 1) := by decide +kernel
theorem dX11_ofGlove_93 : decode cX11_ofGlove 93 = .ok (.ireturn, 1) := by decide +kernel
theorem dX11_glove_0 : decode cX11_glove 0 = .ok (.aload_n 0, 1) := by decide +kernel
theorem dX11_glove_1 : decode cX11_glove 1 = .ok (.iload_n 1, 1) := by decide +kernel
theorem dX11_glove_2 : decode cX11_glove 2 = .ok (.invokevirtual 188, 3) := by decide +kernel
theorem dX11_glove_5 : decode cX11_glove 5 = .ok (.ifCond .eq 26, 3) := by decide +kernel
theorem dX11_glove_8 : decode cX11_glove 8 = .ok (.iload_n 2, 1) := by decide +kernel
theorem dX11_glove_9 : decode cX11_glove 9 = .ok (.iconst 0, 1) := by decide +kernel
theorem dX11_glove_10 : decode cX11_glove 10 = .ok (.bipush 6, 2) := by decide +kernel
theorem dX11_glove_12 : decode cX11_glove 12 = .ok (.invokestatic 94, 3) := by decide +kernel
theorem dX11_glove_15 : decode cX11_glove 15 = .ok (.ifCond .eq 16, 3) := by decide +kernel
theorem dX11_glove_18 : decode cX11_glove 18 = .ok (.aload_n 0, 1) := by decide +kernel
theorem dX11_glove_19 : decode cX11_glove 19 = .ok (.aload_n 0, 1) := by decide +kernel
theorem dX11_glove_20 : decode cX11_glove 20 = .ok (.iload_n 1, 1) := by decide +kernel
theorem dX11_glove_21 : decode cX11_glove 21 = .ok (.iload_n 2, 1) := by decide +kernel
theorem dX11_glove_22 : decode cX11_glove 22 = .ok (.invokevirtual 191, 3) := by decide +kernel
theorem dX11_glove_25 : decode cX11_glove 25 = .ok (.invokevirtual 110, 3) := by decide +kernel
theorem dX11_glove_28 : decode cX11_glove 28 = .ok (.goto 4, 3) := by decide +kernel
theorem dX11_glove_31 : decode cX11_glove 31 = .ok (.iconst (-1), 1) := by decide +kernel
theorem dX11_glove_32 : decode cX11_glove 32 = .ok (.ireturn, 1) := by decide +kernel
theorem dX11_mark_0 : decode cX11_mark 0 = .ok (.aload_n 0, 1) := by decide +kernel
theorem dX11_mark_1 : decode cX11_mark 1 = .ok (.iload_n 1, 1) := by decide +kernel
theorem dX11_mark_2 : decode cX11_mark 2 = .ok (.invokevirtual 188, 3) := by decide +kernel
theorem dX11_mark_5 : decode cX11_mark 5 = .ok (.ifCond .eq 12, 3) := by decide +kernel
theorem dX11_mark_8 : decode cX11_mark 8 = .ok (.iload_n 2, 1) := by decide +kernel
theorem dX11_mark_9 : decode cX11_mark 9 = .ok (.iconst 1, 1) := by decide +kernel
theorem dX11_mark_10 : decode cX11_mark 10 = .ok (.iconst 5, 1) := by decide +kernel
theorem dX11_mark_11 : decode cX11_mark 11 = .ok (.invokestatic 94, 3) := by decide +kernel
theorem dX11_mark_14 : decode cX11_mark 14 = .ok (.ifCond .ne 5, 3) := by decide +kernel
theorem dX11_mark_17 : decode cX11_mark 17 = .ok (.iconst (-1), 1) := by decide +kernel
theorem dX11_mark_18 : decode cX11_mark 18 = .ok (.ireturn, 1) := by decide +kernel
theorem dX11_mark_19 : decode cX11_mark 19 = .ok (.aload_n 0, 1) := by decide +kernel
theorem dX11_mark_20 : decode cX11_mark 20 = .ok (.getfield 41, 3) := by decide +kernel
theorem dX11_mark_23 : decode cX11_mark 23 = .ok (.iload_n 1, 1) := by decide +kernel
theorem dX11_mark_24 : decode cX11_mark 24 = .ok (.iaload, 1) := by decide +kernel
theorem dX11_mark_25 : decode cX11_mark 25 = .ok (.iload_n 2, 1) := by decide +kernel
theorem dX11_mark_26 : decode cX11_mark 26 = .ok (.invokestatic 164, 3) := by decide +kernel
theorem dX11_mark_29 : decode cX11_mark 29 = .ok (.ifCond .ne 9, 3) := by decide +kernel
theorem dX11_mark_32 : decode cX11_mark 32 = .ok (.aload_n 0, 1) := by decide +kernel
theorem dX11_mark_33 : decode cX11_mark 33 = .ok (.iconst 3, 1) := by decide +kernel
theorem dX11_mark_34 : decode cX11_mark 34 = .ok (.invokevirtual 102, 3) := by decide +kernel
theorem dX11_mark_37 : decode cX11_mark 37 = .ok (.ireturn, 1) := by decide +kernel
theorem dX11_mark_38 : decode cX11_mark 38 = .ok (.iconst 0, 1) := by decide +kernel
theorem dX11_mark_39 : decode cX11_mark 39 = .ok (.istore_n 3, 1) := by decide +kernel
theorem dX11_mark_40 : decode cX11_mark 40 = .ok (.iload_n 2, 1) := by decide +kernel
theorem dX11_mark_41 : decode cX11_mark 41 = .ok (.lookupswitch 71 #[(1, 27), (4, 46)], 27) := by decide +kernel
theorem dX11_mark_68 : decode cX11_mark 68 = .ok (.aload_n 0, 1) := by decide +kernel
theorem dX11_mark_69 : decode cX11_mark 69 = .ok (.aload_n 0, 1) := by decide +kernel
theorem dX11_mark_70 : decode cX11_mark 70 = .ok (.getfield 41, 3) := by decide +kernel
theorem dX11_mark_73 : decode cX11_mark 73 = .ok (.iload_n 1, 1) := by decide +kernel
theorem dX11_mark_74 : decode cX11_mark 74 = .ok (.iaload, 1) := by decide +kernel
theorem dX11_mark_75 : decode cX11_mark 75 = .ok (.iload_n 1, 1) := by decide +kernel
theorem dX11_mark_76 : decode cX11_mark 76 = .ok (.invokevirtual 171, 3) := by decide +kernel
theorem dX11_mark_79 : decode cX11_mark 79 = .ok (.aload_n 0, 1) := by decide +kernel
theorem dX11_mark_80 : decode cX11_mark 80 = .ok (.iconst 0, 1) := by decide +kernel
theorem dX11_mark_81 : decode cX11_mark 81 = .ok (.iload_n 1, 1) := by decide +kernel
theorem dX11_mark_82 : decode cX11_mark 82 = .ok (.invokevirtual 171, 3) := by decide +kernel
theorem dX11_mark_85 : decode cX11_mark 85 = .ok (.isub, 1) := by decide +kernel
theorem dX11_mark_86 : decode cX11_mark 86 = .ok (.ireturn, 1) := by decide +kernel
theorem dX11_mark_87 : decode cX11_mark 87 = .ok (.aload_n 0, 1) := by decide +kernel
theorem dX11_mark_88 : decode cX11_mark 88 = .ok (.getfield 56, 3) := by decide +kernel
theorem dX11_mark_91 : decode cX11_mark 91 = .ok (.iload_n 1, 1) := by decide +kernel
theorem dX11_mark_92 : decode cX11_mark 92 = .ok (.iaload, 1) := by decide +kernel
theorem dX11_mark_93 : decode cX11_mark 93 = .ok (.bipush 6, 2) := by decide +kernel
theorem dX11_mark_95 : decode cX11_mark 95 = .ok (.if_icmp .ge 15, 3) := by decide +kernel
theorem dX11_mark_98 : decode cX11_mark 98 = .ok (.bipush 6, 2) := by decide +kernel
theorem dX11_mark_100 : decode cX11_mark 100 = .ok (.aload_n 0, 1) := by decide +kernel
theorem dX11_mark_101 : decode cX11_mark 101 = .ok (.getfield 56, 3) := by decide +kernel
theorem dX11_mark_104 : decode cX11_mark 104 = .ok (.iload_n 1, 1) := by decide +kernel
theorem dX11_mark_105 : decode cX11_mark 105 = .ok (.iaload, 1) := by decide +kernel
theorem dX11_mark_106 : decode cX11_mark 106 = .ok (.isub, 1) := by decide +kernel
theorem dX11_mark_107 : decode cX11_mark 107 = .ok (.goto 4, 3) := by decide +kernel
theorem dX11_mark_110 : decode cX11_mark 110 = .ok (.iconst 0, 1) := by decide +kernel
theorem dX11_mark_111 : decode cX11_mark 111 = .ok (.ireturn, 1) := by decide +kernel
theorem dX11_mark_112 : decode cX11_mark 112 = .ok (.iconst 0, 1) := by decide +kernel
theorem dX11_mark_113 : decode cX11_mark 113 = .ok (.istore 4, 2) := by decide +kernel
theorem dX11_mark_115 : decode cX11_mark 115 = .ok (.iload 4, 2) := by decide +kernel
theorem dX11_mark_117 : decode cX11_mark 117 = .ok (.aload_n 0, 1) := by decide +kernel
theorem dX11_mark_118 : decode cX11_mark 118 = .ok (.getfield 155, 3) := by decide +kernel
theorem dX11_mark_121 : decode cX11_mark 121 = .ok (.if_icmp .ge 109, 3) := by decide +kernel
theorem dX11_mark_124 : decode cX11_mark 124 = .ok (.iload 4, 2) := by decide +kernel
theorem dX11_mark_126 : decode cX11_mark 126 = .ok (.iload_n 1, 1) := by decide +kernel
theorem dX11_mark_127 : decode cX11_mark 127 = .ok (.if_icmp .eq 97, 3) := by decide +kernel
theorem dX11_mark_130 : decode cX11_mark 130 = .ok (.aload_n 0, 1) := by decide +kernel
theorem dX11_mark_131 : decode cX11_mark 131 = .ok (.getfield 53, 3) := by decide +kernel
theorem dX11_mark_134 : decode cX11_mark 134 = .ok (.iload 4, 2) := by decide +kernel
theorem dX11_mark_136 : decode cX11_mark 136 = .ok (.iaload, 1) := by decide +kernel
theorem dX11_mark_137 : decode cX11_mark 137 = .ok (.ifCond .ne 87, 3) := by decide +kernel
theorem dX11_mark_140 : decode cX11_mark 140 = .ok (.aload_n 0, 1) := by decide +kernel
theorem dX11_mark_141 : decode cX11_mark 141 = .ok (.iload_n 1, 1) := by decide +kernel
theorem dX11_mark_142 : decode cX11_mark 142 = .ok (.iload 4, 2) := by decide +kernel
theorem dX11_mark_144 : decode cX11_mark 144 = .ok (.invokevirtual 194, 3) := by decide +kernel
theorem dX11_mark_147 : decode cX11_mark 147 = .ok (.istore 5, 2) := by decide +kernel
theorem dX11_mark_149 : decode cX11_mark 149 = .ok (.iload_n 3, 1) := by decide +kernel
theorem dX11_mark_150 : decode cX11_mark 150 = .ok (.iload_n 2, 1) := by decide +kernel
theorem dX11_mark_151 : decode cX11_mark 151 = .ok (.iconst 3, 1) := by decide +kernel
theorem dX11_mark_152 : decode cX11_mark 152 = .ok (.if_icmp .ne 27, 3) := by decide +kernel
theorem dX11_mark_155 : decode cX11_mark 155 = .ok (.aload_n 0, 1) := by decide +kernel
theorem dX11_mark_156 : decode cX11_mark 156 = .ok (.getfield 44, 3) := by decide +kernel
theorem dX11_mark_159 : decode cX11_mark 159 = .ok (.iload 4, 2) := by decide +kernel
theorem dX11_mark_161 : decode cX11_mark 161 = .ok (.iaload, 1) := by decide +kernel
theorem dX11_mark_162 : decode cX11_mark 162 = .ok (.aload_n 0, 1) := by decide +kernel
theorem dX11_mark_163 : decode cX11_mark 163 = .ok (.getfield 44, 3) := by decide +kernel
theorem dX11_mark_166 : decode cX11_mark 166 = .ok (.iload_n 1, 1) := by decide +kernel
theorem dX11_mark_167 : decode cX11_mark 167 = .ok (.iaload, 1) := by decide +kernel
theorem dX11_mark_168 : decode cX11_mark 168 = .ok (.if_icmp .ne 7, 3) := by decide +kernel
theorem dX11_mark_171 : decode cX11_mark 171 = .ok (.iconst 1, 1) := by decide +kernel
theorem dX11_mark_172 : decode cX11_mark 172 = .ok (.goto 50, 3) := by decide +kernel
theorem dX11_mark_175 : decode cX11_mark 175 = .ok (.iconst 0, 1) := by decide +kernel
theorem dX11_mark_176 : decode cX11_mark 176 = .ok (.goto 46, 3) := by decide +kernel
theorem dX11_mark_179 : decode cX11_mark 179 = .ok (.iload 5, 2) := by decide +kernel
theorem dX11_mark_181 : decode cX11_mark 181 = .ok (.bipush (-9), 2) := by decide +kernel
theorem dX11_mark_183 : decode cX11_mark 183 = .ok (.if_icmp .ne 7, 3) := by decide +kernel
theorem dX11_mark_186 : decode cX11_mark 186 = .ok (.iconst 0, 1) := by decide +kernel
theorem dX11_mark_187 : decode cX11_mark 187 = .ok (.goto 35, 3) := by decide +kernel
theorem dX11_mark_190 : decode cX11_mark 190 = .ok (.iload_n 2, 1) := by decide +kernel
theorem dX11_mark_191 : decode cX11_mark 191 = .ok (.iconst 2, 1) := by decide +kernel
theorem dX11_mark_192 : decode cX11_mark 192 = .ok (.if_icmp .ne 7, 3) := by decide +kernel
theorem dX11_mark_195 : decode cX11_mark 195 = .ok (.iconst 1, 1) := by decide +kernel
theorem dX11_mark_196 : decode cX11_mark 196 = .ok (.goto 26, 3) := by decide +kernel
theorem dX11_mark_199 : decode cX11_mark 199 = .ok (.iload 5, 2) := by decide +kernel
theorem dX11_mark_201 : decode cX11_mark 201 = .ok (.aload_n 0, 1) := by decide +kernel
theorem dX11_mark_202 : decode cX11_mark 202 = .ok (.iload_n 1, 1) := by decide +kernel
theorem dX11_mark_203 : decode cX11_mark 203 = .ok (.iconst 2, 1) := by decide +kernel
theorem dX11_mark_204 : decode cX11_mark 204 = .ok (.aload_n 0, 1) := by decide +kernel
theorem dX11_mark_205 : decode cX11_mark 205 = .ok (.getfield 44, 3) := by decide +kernel
theorem dX11_mark_208 : decode cX11_mark 208 = .ok (.iload_n 1, 1) := by decide +kernel
theorem dX11_mark_209 : decode cX11_mark 209 = .ok (.iaload, 1) := by decide +kernel
theorem dX11_mark_210 : decode cX11_mark 210 = .ok (.aload_n 0, 1) := by decide +kernel
theorem dX11_mark_211 : decode cX11_mark 211 = .ok (.getfield 47, 3) := by decide +kernel
theorem dX11_mark_214 : decode cX11_mark 214 = .ok (.iload_n 1, 1) := by decide +kernel
theorem dX11_mark_215 : decode cX11_mark 215 = .ok (.iaload, 1) := by decide +kernel
theorem dX11_mark_216 : decode cX11_mark 216 = .ok (.iload 4, 2) := by decide +kernel
theorem dX11_mark_218 : decode cX11_mark 218 = .ok (.invokevirtual 174, 3) := by decide +kernel
theorem dX11_mark_221 : decode cX11_mark 221 = .ok (.isub, 1) := by decide +kernel
theorem dX11_mark_222 : decode cX11_mark 222 = .ok (.iadd, 1) := by decide +kernel
theorem dX11_mark_223 : decode cX11_mark 223 = .ok (.istore_n 3, 1) := by decide +kernel
theorem dX11_mark_224 : decode cX11_mark 224 = .ok (.iinc 4 1, 3) := by decide +kernel
theorem dX11_mark_227 : decode cX11_mark 227 = .ok (.goto (-112), 3) := by decide +kernel
theorem dX11_mark_230 : decode cX11_mark 230 = .ok (.iload_n 3, 1) := by decide +kernel
theorem dX11_mark_231 : decode cX11_mark 231 = .ok (.ireturn, 1) := by decide +kernel
theorem dX11_areTwo_0 : decode cX11_areTwo 0 = .ok (.aload_n 0, 1) := by decide +kernel
theorem dX11_areTwo_1 : decode cX11_areTwo 1 = .ok (.iload_n 1, 1) := by decide +kernel
theorem dX11_areTwo_2 : decode cX11_areTwo 2 = .ok (.invokevirtual 188, 3) := by decide +kernel
theorem dX11_areTwo_5 : decode cX11_areTwo 5 = .ok (.ifCond .eq 20, 3) := by decide +kernel
theorem dX11_areTwo_8 : decode cX11_areTwo 8 = .ok (.aload_n 0, 1) := by decide +kernel
theorem dX11_areTwo_9 : decode cX11_areTwo 9 = .ok (.iload_n 2, 1) := by decide +kernel
theorem dX11_areTwo_10 : decode cX11_areTwo 10 = .ok (.invokevirtual 188, 3) := by decide +kernel
theorem dX11_areTwo_13 : decode cX11_areTwo 13 = .ok (.ifCond .eq 12, 3) := by decide +kernel
theorem dX11_areTwo_16 : decode cX11_areTwo 16 = .ok (.iload_n 1, 1) := by decide +kernel
theorem dX11_areTwo_17 : decode cX11_areTwo 17 = .ok (.iload_n 2, 1) := by decide +kernel
theorem dX11_areTwo_18 : decode cX11_areTwo 18 = .ok (.if_icmp .eq 7, 3) := by decide +kernel
theorem dX11_areTwo_21 : decode cX11_areTwo 21 = .ok (.iconst 1, 1) := by decide +kernel
theorem dX11_areTwo_22 : decode cX11_areTwo 22 = .ok (.goto 4, 3) := by decide +kernel
theorem dX11_areTwo_25 : decode cX11_areTwo 25 = .ok (.iconst 0, 1) := by decide +kernel
theorem dX11_areTwo_26 : decode cX11_areTwo 26 = .ok (.ireturn, 1) := by decide +kernel
theorem dX11_pair_0 : decode cX11_pair 0 = .ok (.aload_n 0, 1) := by decide +kernel
theorem dX11_pair_1 : decode cX11_pair 1 = .ok (.iload_n 1, 1) := by decide +kernel
theorem dX11_pair_2 : decode cX11_pair 2 = .ok (.iload_n 2, 1) := by decide +kernel
theorem dX11_pair_3 : decode cX11_pair 3 = .ok (.invokevirtual 197, 3) := by decide +kernel
theorem dX11_pair_6 : decode cX11_pair 6 = .ok (.ifCond .eq 12, 3) := by decide +kernel
theorem dX11_pair_9 : decode cX11_pair 9 = .ok (.aload_n 0, 1) := by decide +kernel
theorem dX11_pair_10 : decode cX11_pair 10 = .ok (.iload_n 1, 1) := by decide +kernel
theorem dX11_pair_11 : decode cX11_pair 11 = .ok (.iload_n 2, 1) := by decide +kernel
theorem dX11_pair_12 : decode cX11_pair 12 = .ok (.invokevirtual 194, 3) := by decide +kernel
theorem dX11_pair_15 : decode cX11_pair 15 = .ok (.goto 4, 3) := by decide +kernel
theorem dX11_pair_18 : decode cX11_pair 18 = .ok (.iconst (-1), 1) := by decide +kernel
theorem dX11_pair_19 : decode cX11_pair 19 = .ok (.ireturn, 1) := by decide +kernel
theorem dX11_wear_0 : decode cX11_wear 0 = .ok (.aload_n 0, 1) := by decide +kernel
theorem dX11_wear_1 : decode cX11_wear 1 = .ok (.iload_n 1, 1) := by decide +kernel
theorem dX11_wear_2 : decode cX11_wear 2 = .ok (.iload_n 2, 1) := by decide +kernel
theorem dX11_wear_3 : decode cX11_wear 3 = .ok (.invokevirtual 197, 3) := by decide +kernel
theorem dX11_wear_6 : decode cX11_wear 6 = .ok (.ifCond .ne 5, 3) := by decide +kernel
theorem dX11_wear_9 : decode cX11_wear 9 = .ok (.iconst (-1), 1) := by decide +kernel
theorem dX11_wear_10 : decode cX11_wear 10 = .ok (.ireturn, 1) := by decide +kernel
theorem dX11_wear_11 : decode cX11_wear 11 = .ok (.aload_n 0, 1) := by decide +kernel
theorem dX11_wear_12 : decode cX11_wear 12 = .ok (.iload_n 1, 1) := by decide +kernel
theorem dX11_wear_13 : decode cX11_wear 13 = .ok (.iload_n 2, 1) := by decide +kernel
theorem dX11_wear_14 : decode cX11_wear 14 = .ok (.invokevirtual 194, 3) := by decide +kernel
theorem dX11_wear_17 : decode cX11_wear 17 = .ok (.istore_n 3, 1) := by decide +kernel
theorem dX11_wear_18 : decode cX11_wear 18 = .ok (.aload_n 0, 1) := by decide +kernel
theorem dX11_wear_19 : decode cX11_wear 19 = .ok (.getfield 53, 3) := by decide +kernel
theorem dX11_wear_22 : decode cX11_wear 22 = .ok (.iload_n 1, 1) := by decide +kernel
theorem dX11_wear_23 : decode cX11_wear 23 = .ok (.iaload, 1) := by decide +kernel
theorem dX11_wear_24 : decode cX11_wear 24 = .ok (.ifCond .ne 18, 3) := by decide +kernel
theorem dX11_wear_27 : decode cX11_wear 27 = .ok (.aload_n 0, 1) := by decide +kernel
theorem dX11_wear_28 : decode cX11_wear 28 = .ok (.getfield 53, 3) := by decide +kernel
theorem dX11_wear_31 : decode cX11_wear 31 = .ok (.iload_n 2, 1) := by decide +kernel
theorem dX11_wear_32 : decode cX11_wear 32 = .ok (.iaload, 1) := by decide +kernel
theorem dX11_wear_33 : decode cX11_wear 33 = .ok (.ifCond .ne 9, 3) := by decide +kernel
theorem dX11_wear_36 : decode cX11_wear 36 = .ok (.iload_n 3, 1) := by decide +kernel
theorem dX11_wear_37 : decode cX11_wear 37 = .ok (.bipush (-9), 2) := by decide +kernel
theorem dX11_wear_39 : decode cX11_wear 39 = .ok (.if_icmp .ne 6, 3) := by decide +kernel
theorem dX11_wear_42 : decode cX11_wear 42 = .ok (.bipush (-4), 2) := by decide +kernel
theorem dX11_wear_44 : decode cX11_wear 44 = .ok (.ireturn, 1) := by decide +kernel
theorem dX11_wear_45 : decode cX11_wear 45 = .ok (.aload_n 0, 1) := by decide +kernel
theorem dX11_wear_46 : decode cX11_wear 46 = .ok (.getfield 158, 3) := by decide +kernel
theorem dX11_wear_49 : decode cX11_wear 49 = .ok (.bipush 40, 2) := by decide +kernel
theorem dX11_wear_51 : decode cX11_wear 51 = .ok (.if_icmp .ne 6, 3) := by decide +kernel
theorem dX11_wear_54 : decode cX11_wear 54 = .ok (.bipush (-2), 2) := by decide +kernel
theorem dX11_wear_56 : decode cX11_wear 56 = .ok (.ireturn, 1) := by decide +kernel
theorem dX11_wear_57 : decode cX11_wear 57 = .ok (.aload_n 0, 1) := by decide +kernel
theorem dX11_wear_58 : decode cX11_wear 58 = .ok (.iconst 0, 1) := by decide +kernel
theorem dX11_wear_59 : decode cX11_wear 59 = .ok (.iload_n 1, 1) := by decide +kernel
theorem dX11_wear_60 : decode cX11_wear 60 = .ok (.iload_n 2, 1) := by decide +kernel
theorem dX11_wear_61 : decode cX11_wear 61 = .ok (.invokevirtual 200, 3) := by decide +kernel
theorem dX11_wear_64 : decode cX11_wear 64 = .ok (.iload_n 3, 1) := by decide +kernel
theorem dX11_wear_65 : decode cX11_wear 65 = .ok (.ireturn, 1) := by decide +kernel
theorem dX11_lose_0 : decode cX11_lose 0 = .ok (.aload_n 0, 1) := by decide +kernel
theorem dX11_lose_1 : decode cX11_lose 1 = .ok (.iload_n 1, 1) := by decide +kernel
theorem dX11_lose_2 : decode cX11_lose 2 = .ok (.invokevirtual 188, 3) := by decide +kernel
theorem dX11_lose_5 : decode cX11_lose 5 = .ok (.ifCond .ne 5, 3) := by decide +kernel
theorem dX11_lose_8 : decode cX11_lose 8 = .ok (.iconst (-1), 1) := by decide +kernel
theorem dX11_lose_9 : decode cX11_lose 9 = .ok (.ireturn, 1) := by decide +kernel
theorem dX11_lose_10 : decode cX11_lose 10 = .ok (.aload_n 0, 1) := by decide +kernel
theorem dX11_lose_11 : decode cX11_lose 11 = .ok (.getfield 53, 3) := by decide +kernel
theorem dX11_lose_14 : decode cX11_lose 14 = .ok (.iload_n 1, 1) := by decide +kernel
theorem dX11_lose_15 : decode cX11_lose 15 = .ok (.iaload, 1) := by decide +kernel
theorem dX11_lose_16 : decode cX11_lose 16 = .ok (.ifCond .ne 13, 3) := by decide +kernel
theorem dX11_lose_19 : decode cX11_lose 19 = .ok (.aload_n 0, 1) := by decide +kernel
theorem dX11_lose_20 : decode cX11_lose 20 = .ok (.getfield 41, 3) := by decide +kernel
theorem dX11_lose_23 : decode cX11_lose 23 = .ok (.iload_n 1, 1) := by decide +kernel
theorem dX11_lose_24 : decode cX11_lose 24 = .ok (.iaload, 1) := by decide +kernel
theorem dX11_lose_25 : decode cX11_lose 25 = .ok (.iconst 3, 1) := by decide +kernel
theorem dX11_lose_26 : decode cX11_lose 26 = .ok (.if_icmp .ne 6, 3) := by decide +kernel
theorem dX11_lose_29 : decode cX11_lose 29 = .ok (.bipush (-4), 2) := by decide +kernel
theorem dX11_lose_31 : decode cX11_lose 31 = .ok (.ireturn, 1) := by decide +kernel
theorem dX11_lose_32 : decode cX11_lose 32 = .ok (.aload_n 0, 1) := by decide +kernel
theorem dX11_lose_33 : decode cX11_lose 33 = .ok (.getfield 158, 3) := by decide +kernel
theorem dX11_lose_36 : decode cX11_lose 36 = .ok (.bipush 40, 2) := by decide +kernel
theorem dX11_lose_38 : decode cX11_lose 38 = .ok (.if_icmp .ne 6, 3) := by decide +kernel
theorem dX11_lose_41 : decode cX11_lose 41 = .ok (.bipush (-2), 2) := by decide +kernel
theorem dX11_lose_43 : decode cX11_lose 43 = .ok (.ireturn, 1) := by decide +kernel
theorem dX11_lose_44 : decode cX11_lose 44 = .ok (.aload_n 0, 1) := by decide +kernel
theorem dX11_lose_45 : decode cX11_lose 45 = .ok (.iconst 1, 1) := by decide +kernel
theorem dX11_lose_46 : decode cX11_lose 46 = .ok (.iload_n 1, 1) := by decide +kernel
theorem dX11_lose_47 : decode cX11_lose 47 = .ok (.iconst 0, 1) := by decide +kernel
theorem dX11_lose_48 : decode cX11_lose 48 = .ok (.invokevirtual 200, 3) := by decide +kernel
theorem dX11_lose_51 : decode cX11_lose 51 = .ok (.aload_n 0, 1) := by decide +kernel
theorem dX11_lose_52 : decode cX11_lose 52 = .ok (.invokevirtual 203, 3) := by decide +kernel
theorem dX11_lose_55 : decode cX11_lose 55 = .ok (.ireturn, 1) := by decide +kernel
theorem dX11_back_0 : decode cX11_back 0 = .ok (.aload_n 0, 1) := by decide +kernel
theorem dX11_back_1 : decode cX11_back 1 = .ok (.iload_n 1, 1) := by decide +kernel
theorem dX11_back_2 : decode cX11_back 2 = .ok (.invokevirtual 188, 3) := by decide +kernel
theorem dX11_back_5 : decode cX11_back 5 = .ok (.ifCond .ne 5, 3) := by decide +kernel
theorem dX11_back_8 : decode cX11_back 8 = .ok (.iconst (-1), 1) := by decide +kernel
theorem dX11_back_9 : decode cX11_back 9 = .ok (.ireturn, 1) := by decide +kernel
theorem dX11_back_10 : decode cX11_back 10 = .ok (.aload_n 0, 1) := by decide +kernel
theorem dX11_back_11 : decode cX11_back 11 = .ok (.getfield 53, 3) := by decide +kernel
theorem dX11_back_14 : decode cX11_back 14 = .ok (.iload_n 1, 1) := by decide +kernel
theorem dX11_back_15 : decode cX11_back 15 = .ok (.iaload, 1) := by decide +kernel
theorem dX11_back_16 : decode cX11_back 16 = .ok (.iconst 1, 1) := by decide +kernel
theorem dX11_back_17 : decode cX11_back 17 = .ok (.if_icmp .eq 6, 3) := by decide +kernel
theorem dX11_back_20 : decode cX11_back 20 = .ok (.bipush (-4), 2) := by decide +kernel
theorem dX11_back_22 : decode cX11_back 22 = .ok (.ireturn, 1) := by decide +kernel
theorem dX11_back_23 : decode cX11_back 23 = .ok (.aload_n 0, 1) := by decide +kernel
theorem dX11_back_24 : decode cX11_back 24 = .ok (.invokevirtual 203, 3) := by decide +kernel
theorem dX11_back_27 : decode cX11_back 27 = .ok (.aload_n 0, 1) := by decide +kernel
theorem dX11_back_28 : decode cX11_back 28 = .ok (.getfield 152, 3) := by decide +kernel
theorem dX11_back_31 : decode cX11_back 31 = .ok (.if_icmp .lt 6, 3) := by decide +kernel
theorem dX11_back_34 : decode cX11_back 34 = .ok (.bipush (-6), 2) := by decide +kernel
theorem dX11_back_36 : decode cX11_back 36 = .ok (.ireturn, 1) := by decide +kernel
theorem dX11_back_37 : decode cX11_back 37 = .ok (.aload_n 0, 1) := by decide +kernel
theorem dX11_back_38 : decode cX11_back 38 = .ok (.getfield 158, 3) := by decide +kernel
theorem dX11_back_41 : decode cX11_back 41 = .ok (.bipush 40, 2) := by decide +kernel
theorem dX11_back_43 : decode cX11_back 43 = .ok (.if_icmp .ne 6, 3) := by decide +kernel
theorem dX11_back_46 : decode cX11_back 46 = .ok (.bipush (-2), 2) := by decide +kernel
theorem dX11_back_48 : decode cX11_back 48 = .ok (.ireturn, 1) := by decide +kernel
theorem dX11_back_49 : decode cX11_back 49 = .ok (.aload_n 0, 1) := by decide +kernel
theorem dX11_back_50 : decode cX11_back 50 = .ok (.iconst 2, 1) := by decide +kernel
theorem dX11_back_51 : decode cX11_back 51 = .ok (.iload_n 1, 1) := by decide +kernel
theorem dX11_back_52 : decode cX11_back 52 = .ok (.iconst 0, 1) := by decide +kernel
theorem dX11_back_53 : decode cX11_back 53 = .ok (.invokevirtual 200, 3) := by decide +kernel
theorem dX11_back_56 : decode cX11_back 56 = .ok (.aload_n 0, 1) := by decide +kernel
theorem dX11_back_57 : decode cX11_back 57 = .ok (.invokevirtual 203, 3) := by decide +kernel
theorem dX11_back_60 : decode cX11_back 60 = .ok (.ireturn, 1) := by decide +kernel
theorem dX11_out_0 : decode cX11_out 0 = .ok (.aload_n 0, 1) := by decide +kernel
theorem dX11_out_1 : decode cX11_out 1 = .ok (.iload_n 1, 1) := by decide +kernel
theorem dX11_out_2 : decode cX11_out 2 = .ok (.invokevirtual 188, 3) := by decide +kernel
theorem dX11_out_5 : decode cX11_out 5 = .ok (.ifCond .ne 5, 3) := by decide +kernel
theorem dX11_out_8 : decode cX11_out 8 = .ok (.iconst (-1), 1) := by decide +kernel
theorem dX11_out_9 : decode cX11_out 9 = .ok (.ireturn, 1) := by decide +kernel
theorem dX11_out_10 : decode cX11_out 10 = .ok (.aload_n 0, 1) := by decide +kernel
theorem dX11_out_11 : decode cX11_out 11 = .ok (.getfield 53, 3) := by decide +kernel
theorem dX11_out_14 : decode cX11_out 14 = .ok (.iload_n 1, 1) := by decide +kernel
theorem dX11_out_15 : decode cX11_out 15 = .ok (.iaload, 1) := by decide +kernel
theorem dX11_out_16 : decode cX11_out 16 = .ok (.iconst 2, 1) := by decide +kernel
theorem dX11_out_17 : decode cX11_out 17 = .ok (.if_icmp .ne 6, 3) := by decide +kernel
theorem dX11_out_20 : decode cX11_out 20 = .ok (.bipush (-4), 2) := by decide +kernel
theorem dX11_out_22 : decode cX11_out 22 = .ok (.ireturn, 1) := by decide +kernel
theorem dX11_out_23 : decode cX11_out 23 = .ok (.aload_n 0, 1) := by decide +kernel
theorem dX11_out_24 : decode cX11_out 24 = .ok (.getfield 158, 3) := by decide +kernel
theorem dX11_out_27 : decode cX11_out 27 = .ok (.bipush 40, 2) := by decide +kernel
theorem dX11_out_29 : decode cX11_out 29 = .ok (.if_icmp .ne 6, 3) := by decide +kernel
theorem dX11_out_32 : decode cX11_out 32 = .ok (.bipush (-2), 2) := by decide +kernel
theorem dX11_out_34 : decode cX11_out 34 = .ok (.ireturn, 1) := by decide +kernel
theorem dX11_out_35 : decode cX11_out 35 = .ok (.aload_n 0, 1) := by decide +kernel
theorem dX11_out_36 : decode cX11_out 36 = .ok (.iconst 3, 1) := by decide +kernel
theorem dX11_out_37 : decode cX11_out 37 = .ok (.iload_n 1, 1) := by decide +kernel
theorem dX11_out_38 : decode cX11_out 38 = .ok (.iconst 0, 1) := by decide +kernel
theorem dX11_out_39 : decode cX11_out 39 = .ok (.invokevirtual 200, 3) := by decide +kernel
theorem dX11_out_42 : decode cX11_out 42 = .ok (.aload_n 0, 1) := by decide +kernel
theorem dX11_out_43 : decode cX11_out 43 = .ok (.invokevirtual 203, 3) := by decide +kernel
theorem dX11_out_46 : decode cX11_out 46 = .ok (.ireturn, 1) := by decide +kernel
theorem dX11_undo_0 : decode cX11_undo 0 = .ok (.iload_n 1, 1) := by decide +kernel
theorem dX11_undo_1 : decode cX11_undo 1 = .ok (.iconst 0, 1) := by decide +kernel
theorem dX11_undo_2 : decode cX11_undo 2 = .ok (.aload_n 0, 1) := by decide +kernel
theorem dX11_undo_3 : decode cX11_undo 3 = .ok (.getfield 158, 3) := by decide +kernel
theorem dX11_undo_6 : decode cX11_undo 6 = .ok (.invokestatic 94, 3) := by decide +kernel
theorem dX11_undo_9 : decode cX11_undo 9 = .ok (.ifCond .ne 5, 3) := by decide +kernel
theorem dX11_undo_12 : decode cX11_undo 12 = .ok (.iconst (-1), 1) := by decide +kernel
theorem dX11_undo_13 : decode cX11_undo 13 = .ok (.ireturn, 1) := by decide +kernel
theorem dX11_undo_14 : decode cX11_undo 14 = .ok (.aload_n 0, 1) := by decide +kernel
theorem dX11_undo_15 : decode cX11_undo 15 = .ok (.getfield 158, 3) := by decide +kernel
theorem dX11_undo_18 : decode cX11_undo 18 = .ok (.iload_n 1, 1) := by decide +kernel
theorem dX11_undo_19 : decode cX11_undo 19 = .ok (.isub, 1) := by decide +kernel
theorem dX11_undo_20 : decode cX11_undo 20 = .ok (.istore_n 2, 1) := by decide +kernel
theorem dX11_undo_21 : decode cX11_undo 21 = .ok (.aload_n 0, 1) := by decide +kernel
theorem dX11_undo_22 : decode cX11_undo 22 = .ok (.iload_n 1, 1) := by decide +kernel
theorem dX11_undo_23 : decode cX11_undo 23 = .ok (.putfield 158, 3) := by decide +kernel
theorem dX11_undo_26 : decode cX11_undo 26 = .ok (.aload_n 0, 1) := by decide +kernel
theorem dX11_undo_27 : decode cX11_undo 27 = .ok (.invokevirtual 161, 3) := by decide +kernel
theorem dX11_undo_30 : decode cX11_undo 30 = .ok (.iload_n 2, 1) := by decide +kernel
theorem dX11_undo_31 : decode cX11_undo 31 = .ok (.ireturn, 1) := by decide +kernel
theorem dX11_keep_0 : decode cX11_keep 0 = .ok (.iload_n 1, 1) := by decide +kernel
theorem dX11_keep_1 : decode cX11_keep 1 = .ok (.iconst 0, 1) := by decide +kernel
theorem dX11_keep_2 : decode cX11_keep 2 = .ok (.iconst 2, 1) := by decide +kernel
theorem dX11_keep_3 : decode cX11_keep 3 = .ok (.invokestatic 94, 3) := by decide +kernel
theorem dX11_keep_6 : decode cX11_keep 6 = .ok (.ifCond .ne 5, 3) := by decide +kernel
theorem dX11_keep_9 : decode cX11_keep 9 = .ok (.iconst (-1), 1) := by decide +kernel
theorem dX11_keep_10 : decode cX11_keep 10 = .ok (.ireturn, 1) := by decide +kernel
theorem dX11_keep_11 : decode cX11_keep 11 = .ok (.aload_n 0, 1) := by decide +kernel
theorem dX11_keep_12 : decode cX11_keep 12 = .ok (.getfield 155, 3) := by decide +kernel
theorem dX11_keep_15 : decode cX11_keep 15 = .ok (.ifCond .ne 6, 3) := by decide +kernel
theorem dX11_keep_18 : decode cX11_keep 18 = .ok (.bipush (-4), 2) := by decide +kernel
theorem dX11_keep_20 : decode cX11_keep 20 = .ok (.ireturn, 1) := by decide +kernel
theorem dX11_keep_21 : decode cX11_keep 21 = .ok (.aload_n 0, 1) := by decide +kernel
theorem dX11_keep_22 : decode cX11_keep 22 = .ok (.getfield 62, 3) := by decide +kernel
theorem dX11_keep_25 : decode cX11_keep 25 = .ok (.iload_n 1, 1) := by decide +kernel
theorem dX11_keep_26 : decode cX11_keep 26 = .ok (.aload_n 0, 1) := by decide +kernel
theorem dX11_keep_27 : decode cX11_keep 27 = .ok (.getfield 158, 3) := by decide +kernel
theorem dX11_keep_30 : decode cX11_keep 30 = .ok (.iastore, 1) := by decide +kernel
theorem dX11_keep_31 : decode cX11_keep 31 = .ok (.iconst 0, 1) := by decide +kernel
theorem dX11_keep_32 : decode cX11_keep 32 = .ok (.istore_n 2, 1) := by decide +kernel
theorem dX11_keep_33 : decode cX11_keep 33 = .ok (.iload_n 2, 1) := by decide +kernel
theorem dX11_keep_34 : decode cX11_keep 34 = .ok (.bipush 120, 2) := by decide +kernel
theorem dX11_keep_36 : decode cX11_keep 36 = .ok (.if_icmp .ge 26, 3) := by decide +kernel
theorem dX11_keep_39 : decode cX11_keep 39 = .ok (.aload_n 0, 1) := by decide +kernel
theorem dX11_keep_40 : decode cX11_keep 40 = .ok (.getfield 65, 3) := by decide +kernel
theorem dX11_keep_43 : decode cX11_keep 43 = .ok (.bipush 120, 2) := by decide +kernel
theorem dX11_keep_45 : decode cX11_keep 45 = .ok (.iload_n 1, 1) := by decide +kernel
theorem dX11_keep_46 : decode cX11_keep 46 = .ok (.imul, 1) := by decide +kernel
theorem dX11_keep_47 : decode cX11_keep 47 = .ok (.iload_n 2, 1) := by decide +kernel
theorem dX11_keep_48 : decode cX11_keep 48 = .ok (.iadd, 1) := by decide +kernel
theorem dX11_keep_49 : decode cX11_keep 49 = .ok (.aload_n 0, 1) := by decide +kernel
theorem dX11_keep_50 : decode cX11_keep 50 = .ok (.getfield 59, 3) := by decide +kernel
theorem dX11_keep_53 : decode cX11_keep 53 = .ok (.iload_n 2, 1) := by decide +kernel
theorem dX11_keep_54 : decode cX11_keep 54 = .ok (.iaload, 1) := by decide +kernel
theorem dX11_keep_55 : decode cX11_keep 55 = .ok (.iastore, 1) := by decide +kernel
theorem dX11_keep_56 : decode cX11_keep 56 = .ok (.iinc 2 1, 3) := by decide +kernel
theorem dX11_keep_59 : decode cX11_keep 59 = .ok (.goto (-26), 3) := by decide +kernel
theorem dX11_keep_62 : decode cX11_keep 62 = .ok (.aload_n 0, 1) := by decide +kernel
theorem dX11_keep_63 : decode cX11_keep 63 = .ok (.getfield 158, 3) := by decide +kernel
theorem dX11_keep_66 : decode cX11_keep 66 = .ok (.ireturn, 1) := by decide +kernel
theorem dX11_on_0 : decode cX11_on 0 = .ok (.iload_n 1, 1) := by decide +kernel
theorem dX11_on_1 : decode cX11_on 1 = .ok (.iconst 0, 1) := by decide +kernel
theorem dX11_on_2 : decode cX11_on 2 = .ok (.iconst 2, 1) := by decide +kernel
theorem dX11_on_3 : decode cX11_on 3 = .ok (.invokestatic 94, 3) := by decide +kernel
theorem dX11_on_6 : decode cX11_on 6 = .ok (.ifCond .ne 5, 3) := by decide +kernel
theorem dX11_on_9 : decode cX11_on 9 = .ok (.iconst (-1), 1) := by decide +kernel
theorem dX11_on_10 : decode cX11_on 10 = .ok (.ireturn, 1) := by decide +kernel
theorem dX11_on_11 : decode cX11_on 11 = .ok (.aload_n 0, 1) := by decide +kernel
theorem dX11_on_12 : decode cX11_on 12 = .ok (.getfield 62, 3) := by decide +kernel
theorem dX11_on_15 : decode cX11_on 15 = .ok (.iload_n 1, 1) := by decide +kernel
theorem dX11_on_16 : decode cX11_on 16 = .ok (.iaload, 1) := by decide +kernel
theorem dX11_on_17 : decode cX11_on 17 = .ok (.ifCond .ge 9, 3) := by decide +kernel
theorem dX11_on_20 : decode cX11_on 20 = .ok (.aload_n 0, 1) := by decide +kernel
theorem dX11_on_21 : decode cX11_on 21 = .ok (.iconst 1, 1) := by decide +kernel
theorem dX11_on_22 : decode cX11_on 22 = .ok (.invokevirtual 102, 3) := by decide +kernel
theorem dX11_on_25 : decode cX11_on 25 = .ok (.ireturn, 1) := by decide +kernel
theorem dX11_on_26 : decode cX11_on 26 = .ok (.aload_n 0, 1) := by decide +kernel
theorem dX11_on_27 : decode cX11_on 27 = .ok (.aload_n 0, 1) := by decide +kernel
theorem dX11_on_28 : decode cX11_on 28 = .ok (.getfield 62, 3) := by decide +kernel
theorem dX11_on_31 : decode cX11_on 31 = .ok (.iload_n 1, 1) := by decide +kernel
theorem dX11_on_32 : decode cX11_on 32 = .ok (.iaload, 1) := by decide +kernel
theorem dX11_on_33 : decode cX11_on 33 = .ok (.putfield 158, 3) := by decide +kernel
theorem dX11_on_36 : decode cX11_on 36 = .ok (.iconst 0, 1) := by decide +kernel
theorem dX11_on_37 : decode cX11_on 37 = .ok (.istore_n 2, 1) := by decide +kernel
theorem dX11_on_38 : decode cX11_on 38 = .ok (.iload_n 2, 1) := by decide +kernel
theorem dX11_on_39 : decode cX11_on 39 = .ok (.bipush 120, 2) := by decide +kernel
theorem dX11_on_41 : decode cX11_on 41 = .ok (.if_icmp .ge 26, 3) := by decide +kernel
theorem dX11_on_44 : decode cX11_on 44 = .ok (.aload_n 0, 1) := by decide +kernel
theorem dX11_on_45 : decode cX11_on 45 = .ok (.getfield 59, 3) := by decide +kernel
theorem dX11_on_48 : decode cX11_on 48 = .ok (.iload_n 2, 1) := by decide +kernel
theorem dX11_on_49 : decode cX11_on 49 = .ok (.aload_n 0, 1) := by decide +kernel
theorem dX11_on_50 : decode cX11_on 50 = .ok (.getfield 65, 3) := by decide +kernel
theorem dX11_on_53 : decode cX11_on 53 = .ok (.bipush 120, 2) := by decide +kernel
theorem dX11_on_55 : decode cX11_on 55 = .ok (.iload_n 1, 1) := by decide +kernel
theorem dX11_on_56 : decode cX11_on 56 = .ok (.imul, 1) := by decide +kernel
theorem dX11_on_57 : decode cX11_on 57 = .ok (.iload_n 2, 1) := by decide +kernel
theorem dX11_on_58 : decode cX11_on 58 = .ok (.iadd, 1) := by decide +kernel
theorem dX11_on_59 : decode cX11_on 59 = .ok (.iaload, 1) := by decide +kernel
theorem dX11_on_60 : decode cX11_on 60 = .ok (.iastore, 1) := by decide +kernel
theorem dX11_on_61 : decode cX11_on 61 = .ok (.iinc 2 1, 3) := by decide +kernel
theorem dX11_on_64 : decode cX11_on 64 = .ok (.goto (-26), 3) := by decide +kernel
theorem dX11_on_67 : decode cX11_on 67 = .ok (.aload_n 0, 1) := by decide +kernel
theorem dX11_on_68 : decode cX11_on 68 = .ok (.invokevirtual 161, 3) := by decide +kernel
theorem dX11_on_71 : decode cX11_on 71 = .ok (.aload_n 0, 1) := by decide +kernel
theorem dX11_on_72 : decode cX11_on 72 = .ok (.getfield 158, 3) := by decide +kernel
theorem dX11_on_75 : decode cX11_on 75 = .ok (.ireturn, 1) := by decide +kernel
theorem dX11_lowestOf_0 : decode cX11_lowestOf 0 = .ok (.iconst 0, 1) := by decide +kernel
theorem dX11_lowestOf_1 : decode cX11_lowestOf 1 = .ok (.istore_n 1, 1) := by decide +kernel
theorem dX11_lowestOf_2 : decode cX11_lowestOf 2 = .ok (.iload_n 0, 1) := by decide +kernel
theorem dX11_lowestOf_3 : decode cX11_lowestOf 3 = .ok (.iload_n 1, 1) := by decide +kernel
theorem dX11_lowestOf_4 : decode cX11_lowestOf 4 = .ok (.ishr, 1) := by decide +kernel
theorem dX11_lowestOf_5 : decode cX11_lowestOf 5 = .ok (.iconst 1, 1) := by decide +kernel
theorem dX11_lowestOf_6 : decode cX11_lowestOf 6 = .ok (.iand, 1) := by decide +kernel
theorem dX11_lowestOf_7 : decode cX11_lowestOf 7 = .ok (.ifCond .ne 9, 3) := by decide +kernel
theorem dX11_lowestOf_10 : decode cX11_lowestOf 10 = .ok (.iinc 1 1, 3) := by decide +kernel
theorem dX11_lowestOf_13 : decode cX11_lowestOf 13 = .ok (.goto (-11), 3) := by decide +kernel
theorem dX11_lowestOf_16 : decode cX11_lowestOf 16 = .ok (.iload_n 1, 1) := by decide +kernel
theorem dX11_lowestOf_17 : decode cX11_lowestOf 17 = .ok (.ireturn, 1) := by decide +kernel
theorem dX11_measure_0 : decode cX11_measure 0 = .ok (.aload_n 0, 1) := by decide +kernel
theorem dX11_measure_1 : decode cX11_measure 1 = .ok (.getfield 68, 3) := by decide +kernel
theorem dX11_measure_4 : decode cX11_measure 4 = .ok (.iconst 0, 1) := by decide +kernel
theorem dX11_measure_5 : decode cX11_measure 5 = .ok (.iconst 0, 1) := by decide +kernel
theorem dX11_measure_6 : decode cX11_measure 6 = .ok (.iastore, 1) := by decide +kernel
theorem dX11_measure_7 : decode cX11_measure 7 = .ok (.aload_n 0, 1) := by decide +kernel
theorem dX11_measure_8 : decode cX11_measure 8 = .ok (.getfield 71, 3) := by decide +kernel
theorem dX11_measure_11 : decode cX11_measure 11 = .ok (.iconst 0, 1) := by decide +kernel
theorem dX11_measure_12 : decode cX11_measure 12 = .ok (.iconst 0, 1) := by decide +kernel
theorem dX11_measure_13 : decode cX11_measure 13 = .ok (.iastore, 1) := by decide +kernel
theorem dX11_measure_14 : decode cX11_measure 14 = .ok (.iconst 1, 1) := by decide +kernel
theorem dX11_measure_15 : decode cX11_measure 15 = .ok (.istore_n 1, 1) := by decide +kernel
theorem dX11_measure_16 : decode cX11_measure 16 = .ok (.iload_n 1, 1) := by decide +kernel
theorem dX11_measure_17 : decode cX11_measure 17 = .ok (.aload_n 0, 1) := by decide +kernel
theorem dX11_measure_18 : decode cX11_measure 18 = .ok (.invokevirtual 206, 3) := by decide +kernel
theorem dX11_measure_21 : decode cX11_measure 21 = .ok (.if_icmp .gt 193, 3) := by decide +kernel
theorem dX11_measure_24 : decode cX11_measure 24 = .ok (.iload_n 1, 1) := by decide +kernel
theorem dX11_measure_25 : decode cX11_measure 25 = .ok (.invokestatic 209, 3) := by decide +kernel
theorem dX11_measure_28 : decode cX11_measure 28 = .ok (.istore_n 2, 1) := by decide +kernel
theorem dX11_measure_29 : decode cX11_measure 29 = .ok (.iload_n 1, 1) := by decide +kernel
theorem dX11_measure_30 : decode cX11_measure 30 = .ok (.iconst 1, 1) := by decide +kernel
theorem dX11_measure_31 : decode cX11_measure 31 = .ok (.iload_n 2, 1) := by decide +kernel
theorem dX11_measure_32 : decode cX11_measure 32 = .ok (.ishl, 1) := by decide +kernel
theorem dX11_measure_33 : decode cX11_measure 33 = .ok (.iconst (-1), 1) := by decide +kernel
theorem dX11_measure_34 : decode cX11_measure 34 = .ok (.ixor, 1) := by decide +kernel
theorem dX11_measure_35 : decode cX11_measure 35 = .ok (.iand, 1) := by decide +kernel
theorem dX11_measure_36 : decode cX11_measure 36 = .ok (.istore_n 3, 1) := by decide +kernel
theorem dX11_measure_37 : decode cX11_measure 37 = .ok (.aload_n 0, 1) := by decide +kernel
theorem dX11_measure_38 : decode cX11_measure 38 = .ok (.getfield 68, 3) := by decide +kernel
theorem dX11_measure_41 : decode cX11_measure 41 = .ok (.iload_n 1, 1) := by decide +kernel
theorem dX11_measure_42 : decode cX11_measure 42 = .ok (.aload_n 0, 1) := by decide +kernel
theorem dX11_measure_43 : decode cX11_measure 43 = .ok (.getfield 68, 3) := by decide +kernel
theorem dX11_measure_46 : decode cX11_measure 46 = .ok (.iload_n 3, 1) := by decide +kernel
theorem dX11_measure_47 : decode cX11_measure 47 = .ok (.iaload, 1) := by decide +kernel
theorem dX11_measure_48 : decode cX11_measure 48 = .ok (.iastore, 1) := by decide +kernel
theorem dX11_measure_49 : decode cX11_measure 49 = .ok (.aload_n 0, 1) := by decide +kernel
theorem dX11_measure_50 : decode cX11_measure 50 = .ok (.getfield 71, 3) := by decide +kernel
theorem dX11_measure_53 : decode cX11_measure 53 = .ok (.iload_n 1, 1) := by decide +kernel
theorem dX11_measure_54 : decode cX11_measure 54 = .ok (.aload_n 0, 1) := by decide +kernel
theorem dX11_measure_55 : decode cX11_measure 55 = .ok (.getfield 71, 3) := by decide +kernel
theorem dX11_measure_58 : decode cX11_measure 58 = .ok (.iload_n 3, 1) := by decide +kernel
theorem dX11_measure_59 : decode cX11_measure 59 = .ok (.iaload, 1) := by decide +kernel
theorem dX11_measure_60 : decode cX11_measure 60 = .ok (.iastore, 1) := by decide +kernel
theorem dX11_measure_61 : decode cX11_measure 61 = .ok (.iload_n 2, 1) := by decide +kernel
theorem dX11_measure_62 : decode cX11_measure 62 = .ok (.iconst 1, 1) := by decide +kernel
theorem dX11_measure_63 : decode cX11_measure 63 = .ok (.iadd, 1) := by decide +kernel
theorem dX11_measure_64 : decode cX11_measure 64 = .ok (.istore 4, 2) := by decide +kernel
theorem dX11_measure_66 : decode cX11_measure 66 = .ok (.iload 4, 2) := by decide +kernel
theorem dX11_measure_68 : decode cX11_measure 68 = .ok (.aload_n 0, 1) := by decide +kernel
theorem dX11_measure_69 : decode cX11_measure 69 = .ok (.getfield 155, 3) := by decide +kernel
theorem dX11_measure_72 : decode cX11_measure 72 = .ok (.if_icmp .ge 136, 3) := by decide +kernel
theorem dX11_measure_75 : decode cX11_measure 75 = .ok (.iload_n 3, 1) := by decide +kernel
theorem dX11_measure_76 : decode cX11_measure 76 = .ok (.iload 4, 2) := by decide +kernel
theorem dX11_measure_78 : decode cX11_measure 78 = .ok (.ishr, 1) := by decide +kernel
theorem dX11_measure_79 : decode cX11_measure 79 = .ok (.iconst 1, 1) := by decide +kernel
theorem dX11_measure_80 : decode cX11_measure 80 = .ok (.iand, 1) := by decide +kernel
theorem dX11_measure_81 : decode cX11_measure 81 = .ok (.iconst 1, 1) := by decide +kernel
theorem dX11_measure_82 : decode cX11_measure 82 = .ok (.if_icmp .ne 13, 3) := by decide +kernel
theorem dX11_measure_85 : decode cX11_measure 85 = .ok (.aload_n 0, 1) := by decide +kernel
theorem dX11_measure_86 : decode cX11_measure 86 = .ok (.iload_n 2, 1) := by decide +kernel
theorem dX11_measure_87 : decode cX11_measure 87 = .ok (.iload 4, 2) := by decide +kernel
theorem dX11_measure_89 : decode cX11_measure 89 = .ok (.invokevirtual 194, 3) := by decide +kernel
theorem dX11_measure_92 : decode cX11_measure 92 = .ok (.goto 5, 3) := by decide +kernel
theorem dX11_measure_95 : decode cX11_measure 95 = .ok (.bipush (-9), 2) := by decide +kernel
theorem dX11_measure_97 : decode cX11_measure 97 = .ok (.istore 5, 2) := by decide +kernel
theorem dX11_measure_99 : decode cX11_measure 99 = .ok (.iload 5, 2) := by decide +kernel
theorem dX11_measure_101 : decode cX11_measure 101 = .ok (.bipush (-9), 2) := by decide +kernel
theorem dX11_measure_103 : decode cX11_measure 103 = .ok (.if_icmp .eq 99, 3) := by decide +kernel
theorem dX11_measure_106 : decode cX11_measure 106 = .ok (.iload_n 3, 1) := by decide +kernel
theorem dX11_measure_107 : decode cX11_measure 107 = .ok (.iconst 1, 1) := by decide +kernel
theorem dX11_measure_108 : decode cX11_measure 108 = .ok (.iload 4, 2) := by decide +kernel
theorem dX11_measure_110 : decode cX11_measure 110 = .ok (.ishl, 1) := by decide +kernel
theorem dX11_measure_111 : decode cX11_measure 111 = .ok (.iconst (-1), 1) := by decide +kernel
theorem dX11_measure_112 : decode cX11_measure 112 = .ok (.ixor, 1) := by decide +kernel
theorem dX11_measure_113 : decode cX11_measure 113 = .ok (.iand, 1) := by decide +kernel
theorem dX11_measure_114 : decode cX11_measure 114 = .ok (.istore 6, 2) := by decide +kernel
theorem dX11_measure_116 : decode cX11_measure 116 = .ok (.aload_n 0, 1) := by decide +kernel
theorem dX11_measure_117 : decode cX11_measure 117 = .ok (.getfield 68, 3) := by decide +kernel
theorem dX11_measure_120 : decode cX11_measure 120 = .ok (.iload_n 1, 1) := by decide +kernel
theorem dX11_measure_121 : decode cX11_measure 121 = .ok (.iload 5, 2) := by decide +kernel
theorem dX11_measure_123 : decode cX11_measure 123 = .ok (.aload_n 0, 1) := by decide +kernel
theorem dX11_measure_124 : decode cX11_measure 124 = .ok (.getfield 68, 3) := by decide +kernel
theorem dX11_measure_127 : decode cX11_measure 127 = .ok (.iload 6, 2) := by decide +kernel
theorem dX11_measure_129 : decode cX11_measure 129 = .ok (.iaload, 1) := by decide +kernel
theorem dX11_measure_130 : decode cX11_measure 130 = .ok (.iadd, 1) := by decide +kernel
theorem dX11_measure_131 : decode cX11_measure 131 = .ok (.aload_n 0, 1) := by decide +kernel
theorem dX11_measure_132 : decode cX11_measure 132 = .ok (.getfield 68, 3) := by decide +kernel
theorem dX11_measure_135 : decode cX11_measure 135 = .ok (.iload_n 1, 1) := by decide +kernel
theorem dX11_measure_136 : decode cX11_measure 136 = .ok (.iaload, 1) := by decide +kernel
theorem dX11_measure_137 : decode cX11_measure 137 = .ok (.if_icmp .le 16, 3) := by decide +kernel
theorem dX11_measure_140 : decode cX11_measure 140 = .ok (.iload 5, 2) := by decide +kernel
theorem dX11_measure_142 : decode cX11_measure 142 = .ok (.aload_n 0, 1) := by decide +kernel
theorem dX11_measure_143 : decode cX11_measure 143 = .ok (.getfield 68, 3) := by decide +kernel
theorem dX11_measure_146 : decode cX11_measure 146 = .ok (.iload 6, 2) := by decide +kernel
theorem dX11_measure_148 : decode cX11_measure 148 = .ok (.iaload, 1) := by decide +kernel
theorem dX11_measure_149 : decode cX11_measure 149 = .ok (.iadd, 1) := by decide +kernel
theorem dX11_measure_150 : decode cX11_measure 150 = .ok (.goto 9, 3) := by decide +kernel
theorem dX11_measure_153 : decode cX11_measure 153 = .ok (.aload_n 0, 1) := by decide +kernel
theorem dX11_measure_154 : decode cX11_measure 154 = .ok (.getfield 68, 3) := by decide +kernel
theorem dX11_measure_157 : decode cX11_measure 157 = .ok (.iload_n 1, 1) := by decide +kernel
theorem dX11_measure_158 : decode cX11_measure 158 = .ok (.iaload, 1) := by decide +kernel
theorem dX11_measure_159 : decode cX11_measure 159 = .ok (.iastore, 1) := by decide +kernel
theorem dX11_measure_160 : decode cX11_measure 160 = .ok (.aload_n 0, 1) := by decide +kernel
theorem dX11_measure_161 : decode cX11_measure 161 = .ok (.getfield 71, 3) := by decide +kernel
theorem dX11_measure_164 : decode cX11_measure 164 = .ok (.iload_n 1, 1) := by decide +kernel
theorem dX11_measure_165 : decode cX11_measure 165 = .ok (.iconst 1, 1) := by decide +kernel
theorem dX11_measure_166 : decode cX11_measure 166 = .ok (.aload_n 0, 1) := by decide +kernel
theorem dX11_measure_167 : decode cX11_measure 167 = .ok (.getfield 71, 3) := by decide +kernel
theorem dX11_measure_170 : decode cX11_measure 170 = .ok (.iload 6, 2) := by decide +kernel
theorem dX11_measure_172 : decode cX11_measure 172 = .ok (.iaload, 1) := by decide +kernel
theorem dX11_measure_173 : decode cX11_measure 173 = .ok (.iadd, 1) := by decide +kernel
theorem dX11_measure_174 : decode cX11_measure 174 = .ok (.aload_n 0, 1) := by decide +kernel
theorem dX11_measure_175 : decode cX11_measure 175 = .ok (.getfield 71, 3) := by decide +kernel
theorem dX11_measure_178 : decode cX11_measure 178 = .ok (.iload_n 1, 1) := by decide +kernel
theorem dX11_measure_179 : decode cX11_measure 179 = .ok (.iaload, 1) := by decide +kernel
theorem dX11_measure_180 : decode cX11_measure 180 = .ok (.if_icmp .le 15, 3) := by decide +kernel
theorem dX11_measure_183 : decode cX11_measure 183 = .ok (.iconst 1, 1) := by decide +kernel
theorem dX11_measure_184 : decode cX11_measure 184 = .ok (.aload_n 0, 1) := by decide +kernel
theorem dX11_measure_185 : decode cX11_measure 185 = .ok (.getfield 71, 3) := by decide +kernel
theorem dX11_measure_188 : decode cX11_measure 188 = .ok (.iload 6, 2) := by decide +kernel
theorem dX11_measure_190 : decode cX11_measure 190 = .ok (.iaload, 1) := by decide +kernel
theorem dX11_measure_191 : decode cX11_measure 191 = .ok (.iadd, 1) := by decide +kernel
theorem dX11_measure_192 : decode cX11_measure 192 = .ok (.goto 9, 3) := by decide +kernel
theorem dX11_measure_195 : decode cX11_measure 195 = .ok (.aload_n 0, 1) := by decide +kernel
theorem dX11_measure_196 : decode cX11_measure 196 = .ok (.getfield 71, 3) := by decide +kernel
theorem dX11_measure_199 : decode cX11_measure 199 = .ok (.iload_n 1, 1) := by decide +kernel
theorem dX11_measure_200 : decode cX11_measure 200 = .ok (.iaload, 1) := by decide +kernel
theorem dX11_measure_201 : decode cX11_measure 201 = .ok (.iastore, 1) := by decide +kernel
theorem dX11_measure_202 : decode cX11_measure 202 = .ok (.iinc 4 1, 3) := by decide +kernel
theorem dX11_measure_205 : decode cX11_measure 205 = .ok (.goto (-139), 3) := by decide +kernel
theorem dX11_measure_208 : decode cX11_measure 208 = .ok (.iinc 1 1, 3) := by decide +kernel
theorem dX11_measure_211 : decode cX11_measure 211 = .ok (.goto (-195), 3) := by decide +kernel
theorem dX11_measure_214 : decode cX11_measure 214 = .ok (.return_, 1) := by decide +kernel
theorem dX11_good_0 : decode cX11_good 0 = .ok (.iload_n 1, 1) := by decide +kernel
theorem dX11_good_1 : decode cX11_good 1 = .ok (.iconst 0, 1) := by decide +kernel
theorem dX11_good_2 : decode cX11_good 2 = .ok (.aload_n 0, 1) := by decide +kernel
theorem dX11_good_3 : decode cX11_good 3 = .ok (.invokevirtual 206, 3) := by decide +kernel
theorem dX11_good_6 : decode cX11_good 6 = .ok (.invokestatic 94, 3) := by decide +kernel
theorem dX11_good_9 : decode cX11_good 9 = .ok (.ifCond .ne 5, 3) := by decide +kernel
theorem dX11_good_12 : decode cX11_good 12 = .ok (.iconst (-1), 1) := by decide +kernel
theorem dX11_good_13 : decode cX11_good 13 = .ok (.ireturn, 1) := by decide +kernel
theorem dX11_good_14 : decode cX11_good 14 = .ok (.aload_n 0, 1) := by decide +kernel
theorem dX11_good_15 : decode cX11_good 15 = .ok (.invokevirtual 212, 3) := by decide +kernel
theorem dX11_good_18 : decode cX11_good 18 = .ok (.aload_n 0, 1) := by decide +kernel
theorem dX11_good_19 : decode cX11_good 19 = .ok (.aload_n 0, 1) := by decide +kernel
theorem dX11_good_20 : decode cX11_good 20 = .ok (.getfield 71, 3) := by decide +kernel
theorem dX11_good_23 : decode cX11_good 23 = .ok (.iload_n 1, 1) := by decide +kernel
theorem dX11_good_24 : decode cX11_good 24 = .ok (.iaload, 1) := by decide +kernel
theorem dX11_good_25 : decode cX11_good 25 = .ok (.putfield 88, 3) := by decide +kernel
theorem dX11_good_28 : decode cX11_good 28 = .ok (.aload_n 0, 1) := by decide +kernel
theorem dX11_good_29 : decode cX11_good 29 = .ok (.getfield 68, 3) := by decide +kernel
theorem dX11_good_32 : decode cX11_good 32 = .ok (.iload_n 1, 1) := by decide +kernel
theorem dX11_good_33 : decode cX11_good 33 = .ok (.iaload, 1) := by decide +kernel
theorem dX11_good_34 : decode cX11_good 34 = .ok (.ireturn, 1) := by decide +kernel
theorem dX11_pairs_0 : decode cX11_pairs 0 = .ok (.iload_n 1, 1) := by decide +kernel
theorem dX11_pairs_1 : decode cX11_pairs 1 = .ok (.invokestatic 98, 3) := by decide +kernel
theorem dX11_pairs_4 : decode cX11_pairs 4 = .ok (.ifCond .ne 5, 3) := by decide +kernel
theorem dX11_pairs_7 : decode cX11_pairs 7 = .ok (.iconst (-1), 1) := by decide +kernel
theorem dX11_pairs_8 : decode cX11_pairs 8 = .ok (.ireturn, 1) := by decide +kernel
theorem dX11_pairs_9 : decode cX11_pairs 9 = .ok (.aload_n 0, 1) := by decide +kernel
theorem dX11_pairs_10 : decode cX11_pairs 10 = .ok (.getfield 155, 3) := by decide +kernel
theorem dX11_pairs_13 : decode cX11_pairs 13 = .ok (.ifCond .ne 6, 3) := by decide +kernel
theorem dX11_pairs_16 : decode cX11_pairs 16 = .ok (.bipush (-4), 2) := by decide +kernel
theorem dX11_pairs_18 : decode cX11_pairs 18 = .ok (.ireturn, 1) := by decide +kernel
theorem dX11_pairs_19 : decode cX11_pairs 19 = .ok (.aload_n 0, 1) := by decide +kernel
theorem dX11_pairs_20 : decode cX11_pairs 20 = .ok (.invokevirtual 212, 3) := by decide +kernel
theorem dX11_pairs_23 : decode cX11_pairs 23 = .ok (.aload_n 0, 1) := by decide +kernel
theorem dX11_pairs_24 : decode cX11_pairs 24 = .ok (.iload_n 1, 1) := by decide +kernel
theorem dX11_pairs_25 : decode cX11_pairs 25 = .ok (.aload_n 0, 1) := by decide +kernel
theorem dX11_pairs_26 : decode cX11_pairs 26 = .ok (.getfield 155, 3) := by decide +kernel
theorem dX11_pairs_29 : decode cX11_pairs 29 = .ok (.invokevirtual 106, 3) := by decide +kernel
theorem dX11_pairs_32 : decode cX11_pairs 32 = .ok (.iconst 0, 1) := by decide +kernel
theorem dX11_pairs_33 : decode cX11_pairs 33 = .ok (.istore_n 2, 1) := by decide +kernel
theorem dX11_pairs_34 : decode cX11_pairs 34 = .ok (.iload_n 2, 1) := by decide +kernel
theorem dX11_pairs_35 : decode cX11_pairs 35 = .ok (.aload_n 0, 1) := by decide +kernel
theorem dX11_pairs_36 : decode cX11_pairs 36 = .ok (.getfield 155, 3) := by decide +kernel
theorem dX11_pairs_39 : decode cX11_pairs 39 = .ok (.if_icmp .ge 22, 3) := by decide +kernel
theorem dX11_pairs_42 : decode cX11_pairs 42 = .ok (.aload_n 0, 1) := by decide +kernel
theorem dX11_pairs_43 : decode cX11_pairs 43 = .ok (.getfield 13, 3) := by decide +kernel
theorem dX11_pairs_46 : decode cX11_pairs 46 = .ok (.bipush 40, 2) := by decide +kernel
theorem dX11_pairs_48 : decode cX11_pairs 48 = .ok (.iload_n 1, 1) := by decide +kernel
theorem dX11_pairs_49 : decode cX11_pairs 49 = .ok (.imul, 1) := by decide +kernel
theorem dX11_pairs_50 : decode cX11_pairs 50 = .ok (.iload_n 2, 1) := by decide +kernel
theorem dX11_pairs_51 : decode cX11_pairs 51 = .ok (.iadd, 1) := by decide +kernel
theorem dX11_pairs_52 : decode cX11_pairs 52 = .ok (.bipush (-9), 2) := by decide +kernel
theorem dX11_pairs_54 : decode cX11_pairs 54 = .ok (.iastore, 1) := by decide +kernel
theorem dX11_pairs_55 : decode cX11_pairs 55 = .ok (.iinc 2 1, 3) := by decide +kernel
theorem dX11_pairs_58 : decode cX11_pairs 58 = .ok (.goto (-24), 3) := by decide +kernel
theorem dX11_pairs_61 : decode cX11_pairs 61 = .ok (.aload_n 0, 1) := by decide +kernel
theorem dX11_pairs_62 : decode cX11_pairs 62 = .ok (.iconst 0, 1) := by decide +kernel
theorem dX11_pairs_63 : decode cX11_pairs 63 = .ok (.invokevirtual 178, 3) := by decide +kernel
theorem dX11_pairs_66 : decode cX11_pairs 66 = .ok (.istore_n 2, 1) := by decide +kernel
theorem dX11_pairs_67 : decode cX11_pairs 67 = .ok (.aload_n 0, 1) := by decide +kernel
theorem dX11_pairs_68 : decode cX11_pairs 68 = .ok (.getfield 68, 3) := by decide +kernel
theorem dX11_pairs_71 : decode cX11_pairs 71 = .ok (.iload_n 2, 1) := by decide +kernel
theorem dX11_pairs_72 : decode cX11_pairs 72 = .ok (.iaload, 1) := by decide +kernel
theorem dX11_pairs_73 : decode cX11_pairs 73 = .ok (.istore_n 3, 1) := by decide +kernel
theorem dX11_pairs_74 : decode cX11_pairs 74 = .ok (.iload_n 2, 1) := by decide +kernel
theorem dX11_pairs_75 : decode cX11_pairs 75 = .ok (.ifCond .eq 180, 3) := by decide +kernel
theorem dX11_pairs_78 : decode cX11_pairs 78 = .ok (.iload_n 2, 1) := by decide +kernel
theorem dX11_pairs_79 : decode cX11_pairs 79 = .ok (.invokestatic 209, 3) := by decide +kernel
theorem dX11_pairs_82 : decode cX11_pairs 82 = .ok (.istore 4, 2) := by decide +kernel
theorem dX11_pairs_84 : decode cX11_pairs 84 = .ok (.iload_n 2, 1) := by decide +kernel
theorem dX11_pairs_85 : decode cX11_pairs 85 = .ok (.iconst 1, 1) := by decide +kernel
theorem dX11_pairs_86 : decode cX11_pairs 86 = .ok (.iload 4, 2) := by decide +kernel
theorem dX11_pairs_88 : decode cX11_pairs 88 = .ok (.ishl, 1) := by decide +kernel
theorem dX11_pairs_89 : decode cX11_pairs 89 = .ok (.iconst (-1), 1) := by decide +kernel
theorem dX11_pairs_90 : decode cX11_pairs 90 = .ok (.ixor, 1) := by decide +kernel
theorem dX11_pairs_91 : decode cX11_pairs 91 = .ok (.iand, 1) := by decide +kernel
theorem dX11_pairs_92 : decode cX11_pairs 92 = .ok (.istore 5, 2) := by decide +kernel
theorem dX11_pairs_94 : decode cX11_pairs 94 = .ok (.bipush (-9), 2) := by decide +kernel
theorem dX11_pairs_96 : decode cX11_pairs 96 = .ok (.istore 6, 2) := by decide +kernel
theorem dX11_pairs_98 : decode cX11_pairs 98 = .ok (.aload_n 0, 1) := by decide +kernel
theorem dX11_pairs_99 : decode cX11_pairs 99 = .ok (.getfield 155, 3) := by decide +kernel
theorem dX11_pairs_102 : decode cX11_pairs 102 = .ok (.iconst 1, 1) := by decide +kernel
theorem dX11_pairs_103 : decode cX11_pairs 103 = .ok (.isub, 1) := by decide +kernel
theorem dX11_pairs_104 : decode cX11_pairs 104 = .ok (.istore 7, 2) := by decide +kernel
theorem dX11_pairs_106 : decode cX11_pairs 106 = .ok (.iload 7, 2) := by decide +kernel
theorem dX11_pairs_108 : decode cX11_pairs 108 = .ok (.iload 4, 2) := by decide +kernel
theorem dX11_pairs_110 : decode cX11_pairs 110 = .ok (.if_icmp .le 93, 3) := by decide +kernel
theorem dX11_pairs_113 : decode cX11_pairs 113 = .ok (.aload_n 0, 1) := by decide +kernel
theorem dX11_pairs_114 : decode cX11_pairs 114 = .ok (.getfield 68, 3) := by decide +kernel
theorem dX11_pairs_117 : decode cX11_pairs 117 = .ok (.iload 5, 2) := by decide +kernel
theorem dX11_pairs_119 : decode cX11_pairs 119 = .ok (.iaload, 1) := by decide +kernel
theorem dX11_pairs_120 : decode cX11_pairs 120 = .ok (.aload_n 0, 1) := by decide +kernel
theorem dX11_pairs_121 : decode cX11_pairs 121 = .ok (.getfield 68, 3) := by decide +kernel
theorem dX11_pairs_124 : decode cX11_pairs 124 = .ok (.iload_n 2, 1) := by decide +kernel
theorem dX11_pairs_125 : decode cX11_pairs 125 = .ok (.iaload, 1) := by decide +kernel
theorem dX11_pairs_126 : decode cX11_pairs 126 = .ok (.if_icmp .eq 77, 3) := by decide +kernel
theorem dX11_pairs_129 : decode cX11_pairs 129 = .ok (.iload 5, 2) := by decide +kernel
theorem dX11_pairs_131 : decode cX11_pairs 131 = .ok (.iload 7, 2) := by decide +kernel
theorem dX11_pairs_133 : decode cX11_pairs 133 = .ok (.ishr, 1) := by decide +kernel
theorem dX11_pairs_134 : decode cX11_pairs 134 = .ok (.iconst 1, 1) := by decide +kernel
theorem dX11_pairs_135 : decode cX11_pairs 135 = .ok (.iand, 1) := by decide +kernel
theorem dX11_pairs_136 : decode cX11_pairs 136 = .ok (.iconst 1, 1) := by decide +kernel
theorem dX11_pairs_137 : decode cX11_pairs 137 = .ok (.if_icmp .ne 14, 3) := by decide +kernel
theorem dX11_pairs_140 : decode cX11_pairs 140 = .ok (.aload_n 0, 1) := by decide +kernel
theorem dX11_pairs_141 : decode cX11_pairs 141 = .ok (.iload 4, 2) := by decide +kernel
theorem dX11_pairs_143 : decode cX11_pairs 143 = .ok (.iload 7, 2) := by decide +kernel
theorem dX11_pairs_145 : decode cX11_pairs 145 = .ok (.invokevirtual 194, 3) := by decide +kernel
theorem dX11_pairs_148 : decode cX11_pairs 148 = .ok (.goto 5, 3) := by decide +kernel
theorem dX11_pairs_151 : decode cX11_pairs 151 = .ok (.bipush (-9), 2) := by decide +kernel
theorem dX11_pairs_153 : decode cX11_pairs 153 = .ok (.istore 8, 2) := by decide +kernel
theorem dX11_pairs_155 : decode cX11_pairs 155 = .ok (.iload 8, 2) := by decide +kernel
theorem dX11_pairs_157 : decode cX11_pairs 157 = .ok (.bipush (-9), 2) := by decide +kernel
theorem dX11_pairs_159 : decode cX11_pairs 159 = .ok (.if_icmp .eq 34, 3) := by decide +kernel
theorem dX11_pairs_162 : decode cX11_pairs 162 = .ok (.iload 8, 2) := by decide +kernel
theorem dX11_pairs_164 : decode cX11_pairs 164 = .ok (.aload_n 0, 1) := by decide +kernel
theorem dX11_pairs_165 : decode cX11_pairs 165 = .ok (.getfield 68, 3) := by decide +kernel
