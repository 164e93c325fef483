theorem dX6_init_0 : decode cX6_init 0 = .ok (.aload_n 0, 1) := by decide +kernel
theorem dX6_init_1 : decode cX6_init 1 = .ok (.invokespecial 3, 3) := by decide +kernel
theorem dX6_init_4 : decode cX6_init 4 = .ok (.aload_n 0, 1) := by decide +kernel
theorem dX6_init_5 : decode cX6_init 5 = .ok (.bipush 64, 2) := by decide +kernel
theorem dX6_init_7 : decode cX6_init 7 = .ok (.newarray .int, 2) := by decide +kernel
theorem dX6_init_9 : decode cX6_init 9 = .ok (.putfield 9, 3) := by decide +kernel
theorem dX6_init_12 : decode cX6_init 12 = .ok (.aload_n 0, 1) := by decide +kernel
theorem dX6_init_13 : decode cX6_init 13 = .ok (.sipush 256, 3) := by decide +kernel
theorem dX6_init_16 : decode cX6_init 16 = .ok (.newarray .int, 2) := by decide +kernel
theorem dX6_init_18 : decode cX6_init 18 = .ok (.putfield 15, 3) := by decide +kernel
theorem dX6_init_21 : decode cX6_init 21 = .ok (.aload_n 0, 1) := by decide +kernel
theorem dX6_init_22 : decode cX6_init 22 = .ok (.sipush 256, 3) := by decide +kernel
theorem dX6_init_25 : decode cX6_init 25 = .ok (.newarray .int, 2) := by decide +kernel
theorem dX6_init_27 : decode cX6_init 27 = .ok (.putfield 18, 3) := by decide +kernel
theorem dX6_init_30 : decode cX6_init 30 = .ok (.aload_n 0, 1) := by decide +kernel
theorem dX6_init_31 : decode cX6_init 31 = .ok (.sipush 256, 3) := by decide +kernel
theorem dX6_init_34 : decode cX6_init 34 = .ok (.newarray .int, 2) := by decide +kernel
theorem dX6_init_36 : decode cX6_init 36 = .ok (.putfield 21, 3) := by decide +kernel
theorem dX6_init_39 : decode cX6_init 39 = .ok (.return_, 1) := by decide +kernel
theorem dX6_weigh_0 : decode cX6_weigh 0 = .ok (.iconst 0, 1) := by decide +kernel
theorem dX6_weigh_1 : decode cX6_weigh 1 = .ok (.istore_n 2, 1) := by decide +kernel
theorem dX6_weigh_2 : decode cX6_weigh 2 = .ok (.iload_n 2, 1) := by decide +kernel
theorem dX6_weigh_3 : decode cX6_weigh 3 = .ok (.aload_n 1, 1) := by decide +kernel
theorem dX6_weigh_4 : decode cX6_weigh 4 = .ok (.getfield 24, 3) := by decide +kernel
theorem dX6_weigh_7 : decode cX6_weigh 7 = .ok (.if_icmp .ge 48, 3) := by decide +kernel
theorem dX6_weigh_10 : decode cX6_weigh 10 = .ok (.iconst 0, 1) := by decide +kernel
theorem dX6_weigh_11 : decode cX6_weigh 11 = .ok (.istore_n 3, 1) := by decide +kernel
theorem dX6_weigh_12 : decode cX6_weigh 12 = .ok (.iload_n 3, 1) := by decide +kernel
theorem dX6_weigh_13 : decode cX6_weigh 13 = .ok (.iload_n 2, 1) := by decide +kernel
theorem dX6_weigh_14 : decode cX6_weigh 14 = .ok (.if_icmp .ge 35, 3) := by decide +kernel
theorem dX6_weigh_17 : decode cX6_weigh 17 = .ok (.aload_n 0, 1) := by decide +kernel
theorem dX6_weigh_18 : decode cX6_weigh 18 = .ok (.getfield 9, 3) := by decide +kernel
theorem dX6_weigh_21 : decode cX6_weigh 21 = .ok (.bipush 8, 2) := by decide +kernel
theorem dX6_weigh_23 : decode cX6_weigh 23 = .ok (.iload_n 2, 1) := by decide +kernel
theorem dX6_weigh_24 : decode cX6_weigh 24 = .ok (.imul, 1) := by decide +kernel
theorem dX6_weigh_25 : decode cX6_weigh 25 = .ok (.iload_n 3, 1) := by decide +kernel
theorem dX6_weigh_26 : decode cX6_weigh 26 = .ok (.iadd, 1) := by decide +kernel
theorem dX6_weigh_27 : decode cX6_weigh 27 = .ok (.aload_n 1, 1) := by decide +kernel
theorem dX6_weigh_28 : decode cX6_weigh 28 = .ok (.getfield 30, 3) := by decide +kernel
theorem dX6_weigh_31 : decode cX6_weigh 31 = .ok (.iload_n 2, 1) := by decide +kernel
theorem dX6_weigh_32 : decode cX6_weigh 32 = .ok (.aaload, 1) := by decide +kernel
theorem dX6_weigh_33 : decode cX6_weigh 33 = .ok (.aload_n 1, 1) := by decide +kernel
theorem dX6_weigh_34 : decode cX6_weigh 34 = .ok (.getfield 30, 3) := by decide +kernel
theorem dX6_weigh_37 : decode cX6_weigh 37 = .ok (.iload_n 3, 1) := by decide +kernel
theorem dX6_weigh_38 : decode cX6_weigh 38 = .ok (.aaload, 1) := by decide +kernel
theorem dX6_weigh_39 : decode cX6_weigh 39 = .ok (.invokevirtual 34, 3) := by decide +kernel
theorem dX6_weigh_42 : decode cX6_weigh 42 = .ok (.iastore, 1) := by decide +kernel
theorem dX6_weigh_43 : decode cX6_weigh 43 = .ok (.iinc 3 1, 3) := by decide +kernel
theorem dX6_weigh_46 : decode cX6_weigh 46 = .ok (.goto (-34), 3) := by decide +kernel
theorem dX6_weigh_49 : decode cX6_weigh 49 = .ok (.iinc 2 1, 3) := by decide +kernel
theorem dX6_weigh_52 : decode cX6_weigh 52 = .ok (.goto (-50), 3) := by decide +kernel
theorem dX6_weigh_55 : decode cX6_weigh 55 = .ok (.aload_n 0, 1) := by decide +kernel
theorem dX6_weigh_56 : decode cX6_weigh 56 = .ok (.getfield 15, 3) := by decide +kernel
theorem dX6_weigh_59 : decode cX6_weigh 59 = .ok (.iconst 0, 1) := by decide +kernel
theorem dX6_weigh_60 : decode cX6_weigh 60 = .ok (.iconst 0, 1) := by decide +kernel
theorem dX6_weigh_61 : decode cX6_weigh 61 = .ok (.iastore, 1) := by decide +kernel
theorem dX6_weigh_62 : decode cX6_weigh 62 = .ok (.aload_n 0, 1) := by decide +kernel
theorem dX6_weigh_63 : decode cX6_weigh 63 = .ok (.getfield 18, 3) := by decide +kernel
theorem dX6_weigh_66 : decode cX6_weigh 66 = .ok (.iconst 0, 1) := by decide +kernel
theorem dX6_weigh_67 : decode cX6_weigh 67 = .ok (.iconst 0, 1) := by decide +kernel
theorem dX6_weigh_68 : decode cX6_weigh 68 = .ok (.iastore, 1) := by decide +kernel
theorem dX6_weigh_69 : decode cX6_weigh 69 = .ok (.iconst 0, 1) := by decide +kernel
theorem dX6_weigh_70 : decode cX6_weigh 70 = .ok (.istore_n 2, 1) := by decide +kernel
theorem dX6_weigh_71 : decode cX6_weigh 71 = .ok (.iload_n 2, 1) := by decide +kernel
theorem dX6_weigh_72 : decode cX6_weigh 72 = .ok (.aload_n 1, 1) := by decide +kernel
theorem dX6_weigh_73 : decode cX6_weigh 73 = .ok (.getfield 24, 3) := by decide +kernel
theorem dX6_weigh_76 : decode cX6_weigh 76 = .ok (.if_icmp .ge 30, 3) := by decide +kernel
theorem dX6_weigh_79 : decode cX6_weigh 79 = .ok (.iconst 0, 1) := by decide +kernel
theorem dX6_weigh_80 : decode cX6_weigh 80 = .ok (.istore_n 3, 1) := by decide +kernel
theorem dX6_weigh_81 : decode cX6_weigh 81 = .ok (.iload_n 3, 1) := by decide +kernel
theorem dX6_weigh_82 : decode cX6_weigh 82 = .ok (.iconst 1, 1) := by decide +kernel
theorem dX6_weigh_83 : decode cX6_weigh 83 = .ok (.iload_n 2, 1) := by decide +kernel
theorem dX6_weigh_84 : decode cX6_weigh 84 = .ok (.ishl, 1) := by decide +kernel
theorem dX6_weigh_85 : decode cX6_weigh 85 = .ok (.if_icmp .ge 15, 3) := by decide +kernel
theorem dX6_weigh_88 : decode cX6_weigh 88 = .ok (.aload_n 0, 1) := by decide +kernel
theorem dX6_weigh_89 : decode cX6_weigh 89 = .ok (.iload_n 2, 1) := by decide +kernel
theorem dX6_weigh_90 : decode cX6_weigh 90 = .ok (.iload_n 3, 1) := by decide +kernel
theorem dX6_weigh_91 : decode cX6_weigh 91 = .ok (.invokevirtual 40, 3) := by decide +kernel
theorem dX6_weigh_94 : decode cX6_weigh 94 = .ok (.iinc 3 1, 3) := by decide +kernel
theorem dX6_weigh_97 : decode cX6_weigh 97 = .ok (.goto (-16), 3) := by decide +kernel
theorem dX6_weigh_100 : decode cX6_weigh 100 = .ok (.iinc 2 1, 3) := by decide +kernel
theorem dX6_weigh_103 : decode cX6_weigh 103 = .ok (.goto (-32), 3) := by decide +kernel
theorem dX6_weigh_106 : decode cX6_weigh 106 = .ok (.return_, 1) := by decide +kernel
theorem dX6_weighWith_0 : decode cX6_weighWith 0 = .ok (.iload_n 2, 1) := by decide +kernel
theorem dX6_weighWith_1 : decode cX6_weighWith 1 = .ok (.iconst 1, 1) := by decide +kernel
theorem dX6_weighWith_2 : decode cX6_weighWith 2 = .ok (.iload_n 1, 1) := by decide +kernel
theorem dX6_weighWith_3 : decode cX6_weighWith 3 = .ok (.ishl, 1) := by decide +kernel
theorem dX6_weighWith_4 : decode cX6_weighWith 4 = .ok (.ior, 1) := by decide +kernel
theorem dX6_weighWith_5 : decode cX6_weighWith 5 = .ok (.istore_n 3, 1) := by decide +kernel
theorem dX6_weighWith_6 : decode cX6_weighWith 6 = .ok (.aload_n 0, 1) := by decide +kernel
theorem dX6_weighWith_7 : decode cX6_weighWith 7 = .ok (.getfield 15, 3) := by decide +kernel
theorem dX6_weighWith_10 : decode cX6_weighWith 10 = .ok (.iload_n 3, 1) := by decide +kernel
theorem dX6_weighWith_11 : decode cX6_weighWith 11 = .ok (.aload_n 0, 1) := by decide +kernel
theorem dX6_weighWith_12 : decode cX6_weighWith 12 = .ok (.getfield 15, 3) := by decide +kernel
theorem dX6_weighWith_15 : decode cX6_weighWith 15 = .ok (.iload_n 2, 1) := by decide +kernel
theorem dX6_weighWith_16 : decode cX6_weighWith 16 = .ok (.iaload, 1) := by decide +kernel
theorem dX6_weighWith_17 : decode cX6_weighWith 17 = .ok (.iastore, 1) := by decide +kernel
theorem dX6_weighWith_18 : decode cX6_weighWith 18 = .ok (.aload_n 0, 1) := by decide +kernel
theorem dX6_weighWith_19 : decode cX6_weighWith 19 = .ok (.getfield 18, 3) := by decide +kernel
theorem dX6_weighWith_22 : decode cX6_weighWith 22 = .ok (.iload_n 3, 1) := by decide +kernel
theorem dX6_weighWith_23 : decode cX6_weighWith 23 = .ok (.aload_n 0, 1) := by decide +kernel
theorem dX6_weighWith_24 : decode cX6_weighWith 24 = .ok (.getfield 18, 3) := by decide +kernel
theorem dX6_weighWith_27 : decode cX6_weighWith 27 = .ok (.iload_n 2, 1) := by decide +kernel
theorem dX6_weighWith_28 : decode cX6_weighWith 28 = .ok (.iaload, 1) := by decide +kernel
theorem dX6_weighWith_29 : decode cX6_weighWith 29 = .ok (.iastore, 1) := by decide +kernel
theorem dX6_weighWith_30 : decode cX6_weighWith 30 = .ok (.iconst 0, 1) := by decide +kernel
theorem dX6_weighWith_31 : decode cX6_weighWith 31 = .ok (.istore 4, 2) := by decide +kernel
theorem dX6_weighWith_33 : decode cX6_weighWith 33 = .ok (.iload 4, 2) := by decide +kernel
theorem dX6_weighWith_35 : decode cX6_weighWith 35 = .ok (.iload_n 1, 1) := by decide +kernel
theorem dX6_weighWith_36 : decode cX6_weighWith 36 = .ok (.if_icmp .ge 96, 3) := by decide +kernel
theorem dX6_weighWith_39 : decode cX6_weighWith 39 = .ok (.aload_n 0, 1) := by decide +kernel
theorem dX6_weighWith_40 : decode cX6_weighWith 40 = .ok (.getfield 9, 3) := by decide +kernel
theorem dX6_weighWith_43 : decode cX6_weighWith 43 = .ok (.bipush 8, 2) := by decide +kernel
theorem dX6_weighWith_45 : decode cX6_weighWith 45 = .ok (.iload_n 1, 1) := by decide +kernel
theorem dX6_weighWith_46 : decode cX6_weighWith 46 = .ok (.imul, 1) := by decide +kernel
theorem dX6_weighWith_47 : decode cX6_weighWith 47 = .ok (.iload 4, 2) := by decide +kernel
theorem dX6_weighWith_49 : decode cX6_weighWith 49 = .ok (.iadd, 1) := by decide +kernel
theorem dX6_weighWith_50 : decode cX6_weighWith 50 = .ok (.iaload, 1) := by decide +kernel
theorem dX6_weighWith_51 : decode cX6_weighWith 51 = .ok (.istore 5, 2) := by decide +kernel
theorem dX6_weighWith_53 : decode cX6_weighWith 53 = .ok (.iload_n 2, 1) := by decide +kernel
theorem dX6_weighWith_54 : decode cX6_weighWith 54 = .ok (.iconst 1, 1) := by decide +kernel
theorem dX6_weighWith_55 : decode cX6_weighWith 55 = .ok (.iload 4, 2) := by decide +kernel
theorem dX6_weighWith_57 : decode cX6_weighWith 57 = .ok (.ishl, 1) := by decide +kernel
theorem dX6_weighWith_58 : decode cX6_weighWith 58 = .ok (.iand, 1) := by decide +kernel
theorem dX6_weighWith_59 : decode cX6_weighWith 59 = .ok (.ifCond .eq 67, 3) := by decide +kernel
theorem dX6_weighWith_62 : decode cX6_weighWith 62 = .ok (.iload 5, 2) := by decide +kernel
theorem dX6_weighWith_64 : decode cX6_weighWith 64 = .ok (.bipush (-9), 2) := by decide +kernel
theorem dX6_weighWith_66 : decode cX6_weighWith 66 = .ok (.if_icmp .eq 60, 3) := by decide +kernel
theorem dX6_weighWith_69 : decode cX6_weighWith 69 = .ok (.iload_n 2, 1) := by decide +kernel
theorem dX6_weighWith_70 : decode cX6_weighWith 70 = .ok (.iconst 1, 1) := by decide +kernel
theorem dX6_weighWith_71 : decode cX6_weighWith 71 = .ok (.iload 4, 2) := by decide +kernel
theorem dX6_weighWith_73 : decode cX6_weighWith 73 = .ok (.ishl, 1) := by decide +kernel
theorem dX6_weighWith_74 : decode cX6_weighWith 74 = .ok (.ixor, 1) := by decide +kernel
theorem dX6_weighWith_75 : decode cX6_weighWith 75 = .ok (.istore 6, 2) := by decide +kernel
theorem dX6_weighWith_77 : decode cX6_weighWith 77 = .ok (.aload_n 0, 1) := by decide +kernel
theorem dX6_weighWith_78 : decode cX6_weighWith 78 = .ok (.getfield 15, 3) := by decide +kernel
theorem dX6_weighWith_81 : decode cX6_weighWith 81 = .ok (.iload_n 3, 1) := by decide +kernel
theorem dX6_weighWith_82 : decode cX6_weighWith 82 = .ok (.aload_n 0, 1) := by decide +kernel
theorem dX6_weighWith_83 : decode cX6_weighWith 83 = .ok (.getfield 15, 3) := by decide +kernel
theorem dX6_weighWith_86 : decode cX6_weighWith 86 = .ok (.iload_n 3, 1) := by decide +kernel
theorem dX6_weighWith_87 : decode cX6_weighWith 87 = .ok (.iaload, 1) := by decide +kernel
theorem dX6_weighWith_88 : decode cX6_weighWith 88 = .ok (.aload_n 0, 1) := by decide +kernel
theorem dX6_weighWith_89 : decode cX6_weighWith 89 = .ok (.getfield 15, 3) := by decide +kernel
theorem dX6_weighWith_92 : decode cX6_weighWith 92 = .ok (.iload 6, 2) := by decide +kernel
theorem dX6_weighWith_94 : decode cX6_weighWith 94 = .ok (.iaload, 1) := by decide +kernel
theorem dX6_weighWith_95 : decode cX6_weighWith 95 = .ok (.iload 5, 2) := by decide +kernel
theorem dX6_weighWith_97 : decode cX6_weighWith 97 = .ok (.iadd, 1) := by decide +kernel
theorem dX6_weighWith_98 : decode cX6_weighWith 98 = .ok (.invokestatic 44, 3) := by decide +kernel
theorem dX6_weighWith_101 : decode cX6_weighWith 101 = .ok (.iastore, 1) := by decide +kernel
theorem dX6_weighWith_102 : decode cX6_weighWith 102 = .ok (.aload_n 0, 1) := by decide +kernel
theorem dX6_weighWith_103 : decode cX6_weighWith 103 = .ok (.getfield 18, 3) := by decide +kernel
theorem dX6_weighWith_106 : decode cX6_weighWith 106 = .ok (.iload_n 3, 1) := by decide +kernel
theorem dX6_weighWith_107 : decode cX6_weighWith 107 = .ok (.aload_n 0, 1) := by decide +kernel
theorem dX6_weighWith_108 : decode cX6_weighWith 108 = .ok (.getfield 18, 3) := by decide +kernel
theorem dX6_weighWith_111 : decode cX6_weighWith 111 = .ok (.iload_n 3, 1) := by decide +kernel
theorem dX6_weighWith_112 : decode cX6_weighWith 112 = .ok (.iaload, 1) := by decide +kernel
theorem dX6_weighWith_113 : decode cX6_weighWith 113 = .ok (.aload_n 0, 1) := by decide +kernel
theorem dX6_weighWith_114 : decode cX6_weighWith 114 = .ok (.getfield 18, 3) := by decide +kernel
theorem dX6_weighWith_117 : decode cX6_weighWith 117 = .ok (.iload 6, 2) := by decide +kernel
theorem dX6_weighWith_119 : decode cX6_weighWith 119 = .ok (.iaload, 1) := by decide +kernel
theorem dX6_weighWith_120 : decode cX6_weighWith 120 = .ok (.iconst 1, 1) := by decide +kernel
theorem dX6_weighWith_121 : decode cX6_weighWith 121 = .ok (.iadd, 1) := by decide +kernel
theorem dX6_weighWith_122 : decode cX6_weighWith 122 = .ok (.invokestatic 44, 3) := by decide +kernel
theorem dX6_weighWith_125 : decode cX6_weighWith 125 = .ok (.iastore, 1) := by decide +kernel
theorem dX6_weighWith_126 : decode cX6_weighWith 126 = .ok (.iinc 4 1, 3) := by decide +kernel
theorem dX6_weighWith_129 : decode cX6_weighWith 129 = .ok (.goto (-96), 3) := by decide +kernel
theorem dX6_weighWith_132 : decode cX6_weighWith 132 = .ok (.return_, 1) := by decide +kernel
theorem dX6_partTo_0 : decode cX6_partTo 0 = .ok (.aload_n 2, 1) := by decide +kernel
theorem dX6_partTo_1 : decode cX6_partTo 1 = .ok (.iload_n 3, 1) := by decide +kernel
theorem dX6_partTo_2 : decode cX6_partTo 2 = .ok (.aload_n 1, 1) := by decide +kernel
theorem dX6_partTo_3 : decode cX6_partTo 3 = .ok (.getfield 24, 3) := by decide +kernel
theorem dX6_partTo_6 : decode cX6_partTo 6 = .ok (.invokevirtual 50, 3) := by decide +kernel
theorem dX6_partTo_9 : decode cX6_partTo 9 = .ok (.iconst 0, 1) := by decide +kernel
theorem dX6_partTo_10 : decode cX6_partTo 10 = .ok (.istore 4, 2) := by decide +kernel
theorem dX6_partTo_12 : decode cX6_partTo 12 = .ok (.iload 4, 2) := by decide +kernel
theorem dX6_partTo_14 : decode cX6_partTo 14 = .ok (.aload_n 1, 1) := by decide +kernel
theorem dX6_partTo_15 : decode cX6_partTo 15 = .ok (.getfield 24, 3) := by decide +kernel
theorem dX6_partTo_18 : decode cX6_partTo 18 = .ok (.if_icmp .ge 18, 3) := by decide +kernel
theorem dX6_partTo_21 : decode cX6_partTo 21 = .ok (.aload_n 2, 1) := by decide +kernel
theorem dX6_partTo_22 : decode cX6_partTo 22 = .ok (.iload_n 3, 1) := by decide +kernel
theorem dX6_partTo_23 : decode cX6_partTo 23 = .ok (.iload 4, 2) := by decide +kernel
theorem dX6_partTo_25 : decode cX6_partTo 25 = .ok (.bipush (-9), 2) := by decide +kernel
theorem dX6_partTo_27 : decode cX6_partTo 27 = .ok (.invokevirtual 55, 3) := by decide +kernel
theorem dX6_partTo_30 : decode cX6_partTo 30 = .ok (.iinc 4 1, 3) := by decide +kernel
theorem dX6_partTo_33 : decode cX6_partTo 33 = .ok (.goto (-21), 3) := by decide +kernel
theorem dX6_partTo_36 : decode cX6_partTo 36 = .ok (.aload_n 1, 1) := by decide +kernel
theorem dX6_partTo_37 : decode cX6_partTo 37 = .ok (.iconst 0, 1) := by decide +kernel
theorem dX6_partTo_38 : decode cX6_partTo 38 = .ok (.invokevirtual 59, 3) := by decide +kernel
theorem dX6_partTo_41 : decode cX6_partTo 41 = .ok (.istore 4, 2) := by decide +kernel
theorem dX6_partTo_43 : decode cX6_partTo 43 = .ok (.iconst 0, 1) := by decide +kernel
theorem dX6_partTo_44 : decode cX6_partTo 44 = .ok (.istore 5, 2) := by decide +kernel
theorem dX6_partTo_46 : decode cX6_partTo 46 = .ok (.iload 5, 2) := by decide +kernel
theorem dX6_partTo_48 : decode cX6_partTo 48 = .ok (.aload_n 1, 1) := by decide +kernel
theorem dX6_partTo_49 : decode cX6_partTo 49 = .ok (.getfield 24, 3) := by decide +kernel
theorem dX6_partTo_52 : decode cX6_partTo 52 = .ok (.if_icmp .ge 73, 3) := by decide +kernel
theorem dX6_partTo_55 : decode cX6_partTo 55 = .ok (.iload 4, 2) := by decide +kernel
theorem dX6_partTo_57 : decode cX6_partTo 57 = .ok (.iconst 1, 1) := by decide +kernel
theorem dX6_partTo_58 : decode cX6_partTo 58 = .ok (.iload 5, 2) := by decide +kernel
theorem dX6_partTo_60 : decode cX6_partTo 60 = .ok (.ishl, 1) := by decide +kernel
theorem dX6_partTo_61 : decode cX6_partTo 61 = .ok (.iand, 1) := by decide +kernel
theorem dX6_partTo_62 : decode cX6_partTo 62 = .ok (.ifCond .eq 57, 3) := by decide +kernel
theorem dX6_partTo_65 : decode cX6_partTo 65 = .ok (.aload_n 0, 1) := by decide +kernel
theorem dX6_partTo_66 : decode cX6_partTo 66 = .ok (.aload_n 1, 1) := by decide +kernel
theorem dX6_partTo_67 : decode cX6_partTo 67 = .ok (.iload 5, 2) := by decide +kernel
theorem dX6_partTo_69 : decode cX6_partTo 69 = .ok (.iload 4, 2) := by decide +kernel
theorem dX6_partTo_71 : decode cX6_partTo 71 = .ok (.invokevirtual 63, 3) := by decide +kernel
theorem dX6_partTo_74 : decode cX6_partTo 74 = .ok (.istore 6, 2) := by decide +kernel
theorem dX6_partTo_76 : decode cX6_partTo 76 = .ok (.iload 4, 2) := by decide +kernel
theorem dX6_partTo_78 : decode cX6_partTo 78 = .ok (.iconst 1, 1) := by decide +kernel
theorem dX6_partTo_79 : decode cX6_partTo 79 = .ok (.iload 5, 2) := by decide +kernel
theorem dX6_partTo_81 : decode cX6_partTo 81 = .ok (.ishl, 1) := by decide +kernel
theorem dX6_partTo_82 : decode cX6_partTo 82 = .ok (.ixor, 1) := by decide +kernel
theorem dX6_partTo_83 : decode cX6_partTo 83 = .ok (.istore 4, 2) := by decide +kernel
theorem dX6_partTo_85 : decode cX6_partTo 85 = .ok (.iload 6, 2) := by decide +kernel
theorem dX6_partTo_87 : decode cX6_partTo 87 = .ok (.bipush (-9), 2) := by decide +kernel
theorem dX6_partTo_89 : decode cX6_partTo 89 = .ok (.if_icmp .eq 30, 3) := by decide +kernel
theorem dX6_partTo_92 : decode cX6_partTo 92 = .ok (.iload 4, 2) := by decide +kernel
theorem dX6_partTo_94 : decode cX6_partTo 94 = .ok (.iconst 1, 1) := by decide +kernel
theorem dX6_partTo_95 : decode cX6_partTo 95 = .ok (.iload 6, 2) := by decide +kernel
theorem dX6_partTo_97 : decode cX6_partTo 97 = .ok (.ishl, 1) := by decide +kernel
theorem dX6_partTo_98 : decode cX6_partTo 98 = .ok (.ixor, 1) := by decide +kernel
theorem dX6_partTo_99 : decode cX6_partTo 99 = .ok (.istore 4, 2) := by decide +kernel
theorem dX6_partTo_101 : decode cX6_partTo 101 = .ok (.aload_n 2, 1) := by decide +kernel
theorem dX6_partTo_102 : decode cX6_partTo 102 = .ok (.iload_n 3, 1) := by decide +kernel
theorem dX6_partTo_103 : decode cX6_partTo 103 = .ok (.iload 5, 2) := by decide +kernel
theorem dX6_partTo_105 : decode cX6_partTo 105 = .ok (.iload 6, 2) := by decide +kernel
theorem dX6_partTo_107 : decode cX6_partTo 107 = .ok (.invokevirtual 55, 3) := by decide +kernel
theorem dX6_partTo_110 : decode cX6_partTo 110 = .ok (.aload_n 2, 1) := by decide +kernel
theorem dX6_partTo_111 : decode cX6_partTo 111 = .ok (.iload_n 3, 1) := by decide +kernel
theorem dX6_partTo_112 : decode cX6_partTo 112 = .ok (.iload 6, 2) := by decide +kernel
theorem dX6_partTo_114 : decode cX6_partTo 114 = .ok (.iload 5, 2) := by decide +kernel
theorem dX6_partTo_116 : decode cX6_partTo 116 = .ok (.invokevirtual 55, 3) := by decide +kernel
theorem dX6_partTo_119 : decode cX6_partTo 119 = .ok (.iinc 5 1, 3) := by decide +kernel
theorem dX6_partTo_122 : decode cX6_partTo 122 = .ok (.goto (-76), 3) := by decide +kernel
theorem dX6_partTo_125 : decode cX6_partTo 125 = .ok (.return_, 1) := by decide +kernel
theorem dX6_firstMate_0 : decode cX6_firstMate 0 = .ok (.iload_n 3, 1) := by decide +kernel
theorem dX6_firstMate_1 : decode cX6_firstMate 1 = .ok (.iconst 1, 1) := by decide +kernel
theorem dX6_firstMate_2 : decode cX6_firstMate 2 = .ok (.iload_n 2, 1) := by decide +kernel
theorem dX6_firstMate_3 : decode cX6_firstMate 3 = .ok (.ishl, 1) := by decide +kernel
theorem dX6_firstMate_4 : decode cX6_firstMate 4 = .ok (.ixor, 1) := by decide +kernel
theorem dX6_firstMate_5 : decode cX6_firstMate 5 = .ok (.istore 4, 2) := by decide +kernel
theorem dX6_firstMate_7 : decode cX6_firstMate 7 = .ok (.aload_n 0, 1) := by decide +kernel
theorem dX6_firstMate_8 : decode cX6_firstMate 8 = .ok (.getfield 15, 3) := by decide +kernel
theorem dX6_firstMate_11 : decode cX6_firstMate 11 = .ok (.iload 4, 2) := by decide +kernel
theorem dX6_firstMate_13 : decode cX6_firstMate 13 = .ok (.iaload, 1) := by decide +kernel
theorem dX6_firstMate_14 : decode cX6_firstMate 14 = .ok (.aload_n 0, 1) := by decide +kernel
theorem dX6_firstMate_15 : decode cX6_firstMate 15 = .ok (.getfield 15, 3) := by decide +kernel
theorem dX6_firstMate_18 : decode cX6_firstMate 18 = .ok (.iload_n 3, 1) := by decide +kernel
theorem dX6_firstMate_19 : decode cX6_firstMate 19 = .ok (.iaload, 1) := by decide +kernel
theorem dX6_firstMate_20 : decode cX6_firstMate 20 = .ok (.if_icmp .ne 6, 3) := by decide +kernel
theorem dX6_firstMate_23 : decode cX6_firstMate 23 = .ok (.bipush (-9), 2) := by decide +kernel
theorem dX6_firstMate_25 : decode cX6_firstMate 25 = .ok (.ireturn, 1) := by decide +kernel
theorem dX6_firstMate_26 : decode cX6_firstMate 26 = .ok (.iload_n 2, 1) := by decide +kernel
theorem dX6_firstMate_27 : decode cX6_firstMate 27 = .ok (.iconst 1, 1) := by decide +kernel
theorem dX6_firstMate_28 : decode cX6_firstMate 28 = .ok (.iadd, 1) := by decide +kernel
theorem dX6_firstMate_29 : decode cX6_firstMate 29 = .ok (.istore 5, 2) := by decide +kernel
theorem dX6_firstMate_31 : decode cX6_firstMate 31 = .ok (.iload 5, 2) := by decide +kernel
theorem dX6_firstMate_33 : decode cX6_firstMate 33 = .ok (.aload_n 1, 1) := by decide +kernel
theorem dX6_firstMate_34 : decode cX6_firstMate 34 = .ok (.getfield 24, 3) := by decide +kernel
theorem dX6_firstMate_37 : decode cX6_firstMate 37 = .ok (.if_icmp .ge 67, 3) := by decide +kernel
theorem dX6_firstMate_40 : decode cX6_firstMate 40 = .ok (.aload_n 0, 1) := by decide +kernel
theorem dX6_firstMate_41 : decode cX6_firstMate 41 = .ok (.getfield 9, 3) := by decide +kernel
theorem dX6_firstMate_44 : decode cX6_firstMate 44 = .ok (.bipush 8, 2) := by decide +kernel
theorem dX6_firstMate_46 : decode cX6_firstMate 46 = .ok (.iload 5, 2) := by decide +kernel
theorem dX6_firstMate_48 : decode cX6_firstMate 48 = .ok (.imul, 1) := by decide +kernel
theorem dX6_firstMate_49 : decode cX6_firstMate 49 = .ok (.iload_n 2, 1) := by decide +kernel
theorem dX6_firstMate_50 : decode cX6_firstMate 50 = .ok (.iadd, 1) := by decide +kernel
theorem dX6_firstMate_51 : decode cX6_firstMate 51 = .ok (.iaload, 1) := by decide +kernel
theorem dX6_firstMate_52 : decode cX6_firstMate 52 = .ok (.istore 6, 2) := by decide +kernel
theorem dX6_firstMate_54 : decode cX6_firstMate 54 = .ok (.iload 4, 2) := by decide +kernel
theorem dX6_firstMate_56 : decode cX6_firstMate 56 = .ok (.iconst 1, 1) := by decide +kernel
theorem dX6_firstMate_57 : decode cX6_firstMate 57 = .ok (.iload 5, 2) := by decide +kernel
theorem dX6_firstMate_59 : decode cX6_firstMate 59 = .ok (.ishl, 1) := by decide +kernel
theorem dX6_firstMate_60 : decode cX6_firstMate 60 = .ok (.iand, 1) := by decide +kernel
theorem dX6_firstMate_61 : decode cX6_firstMate 61 = .ok (.ifCond .eq 37, 3) := by decide +kernel
theorem dX6_firstMate_64 : decode cX6_firstMate 64 = .ok (.iload 6, 2) := by decide +kernel
theorem dX6_firstMate_66 : decode cX6_firstMate 66 = .ok (.bipush (-9), 2) := by decide +kernel
theorem dX6_firstMate_68 : decode cX6_firstMate 68 = .ok (.if_icmp .eq 30, 3) := by decide +kernel
theorem dX6_firstMate_71 : decode cX6_firstMate 71 = .ok (.iload 6, 2) := by decide +kernel
theorem dX6_firstMate_73 : decode cX6_firstMate 73 = .ok (.aload_n 0, 1) := by decide +kernel
theorem dX6_firstMate_74 : decode cX6_firstMate 74 = .ok (.getfield 15, 3) := by decide +kernel
theorem dX6_firstMate_77 : decode cX6_firstMate 77 = .ok (.iload 4, 2) := by decide +kernel
theorem dX6_firstMate_79 : decode cX6_firstMate 79 = .ok (.iconst 1, 1) := by decide +kernel
theorem dX6_firstMate_80 : decode cX6_firstMate 80 = .ok (.iload 5, 2) := by decide +kernel
theorem dX6_firstMate_82 : decode cX6_firstMate 82 = .ok (.ishl, 1) := by decide +kernel
theorem dX6_firstMate_83 : decode cX6_firstMate 83 = .ok (.ixor, 1) := by decide +kernel
theorem dX6_firstMate_84 : decode cX6_firstMate 84 = .ok (.iaload, 1) := by decide +kernel
theorem dX6_firstMate_85 : decode cX6_firstMate 85 = .ok (.iadd, 1) := by decide +kernel
theorem dX6_firstMate_86 : decode cX6_firstMate 86 = .ok (.aload_n 0, 1) := by decide +kernel
theorem dX6_firstMate_87 : decode cX6_firstMate 87 = .ok (.getfield 15, 3) := by decide +kernel
theorem dX6_firstMate_90 : decode cX6_firstMate 90 = .ok (.iload_n 3, 1) := by decide +kernel
theorem dX6_firstMate_91 : decode cX6_firstMate 91 = .ok (.iaload, 1) := by decide +kernel
theorem dX6_firstMate_92 : decode cX6_firstMate 92 = .ok (.if_icmp .ne 6, 3) := by decide +kernel
theorem dX6_firstMate_95 : decode cX6_firstMate 95 = .ok (.iload 5, 2) := by decide +kernel
theorem dX6_firstMate_97 : decode cX6_firstMate 97 = .ok (.ireturn, 1) := by decide +kernel
theorem dX6_firstMate_98 : decode cX6_firstMate 98 = .ok (.iinc 5 1, 3) := by decide +kernel
theorem dX6_firstMate_101 : decode cX6_firstMate 101 = .ok (.goto (-70), 3) := by decide +kernel
theorem dX6_firstMate_104 : decode cX6_firstMate 104 = .ok (.bipush (-9), 2) := by decide +kernel
theorem dX6_firstMate_106 : decode cX6_firstMate 106 = .ok (.ireturn, 1) := by decide +kernel
theorem dX6_safestSet_0 : decode cX6_safestSet 0 = .ok (.aload_n 1, 1) := by decide +kernel
theorem dX6_safestSet_1 : decode cX6_safestSet 1 = .ok (.iconst 0, 1) := by decide +kernel
theorem dX6_safestSet_2 : decode cX6_safestSet 2 = .ok (.invokevirtual 59, 3) := by decide +kernel
theorem dX6_safestSet_5 : decode cX6_safestSet 5 = .ok (.istore_n 2, 1) := by decide +kernel
theorem dX6_safestSet_6 : decode cX6_safestSet 6 = .ok (.iconst 0, 1) := by decide +kernel
theorem dX6_safestSet_7 : decode cX6_safestSet 7 = .ok (.istore_n 3, 1) := by decide +kernel
theorem dX6_safestSet_8 : decode cX6_safestSet 8 = .ok (.iconst 1, 1) := by decide +kernel
theorem dX6_safestSet_9 : decode cX6_safestSet 9 = .ok (.istore 4, 2) := by decide +kernel
theorem dX6_safestSet_11 : decode cX6_safestSet 11 = .ok (.iload 4, 2) := by decide +kernel
theorem dX6_safestSet_13 : decode cX6_safestSet 13 = .ok (.iconst 1, 1) := by decide +kernel
theorem dX6_safestSet_14 : decode cX6_safestSet 14 = .ok (.aload_n 1, 1) := by decide +kernel
theorem dX6_safestSet_15 : decode cX6_safestSet 15 = .ok (.getfield 24, 3) := by decide +kernel
theorem dX6_safestSet_18 : decode cX6_safestSet 18 = .ok (.ishl, 1) := by decide +kernel
theorem dX6_safestSet_19 : decode cX6_safestSet 19 = .ok (.if_icmp .ge 56, 3) := by decide +kernel
theorem dX6_safestSet_22 : decode cX6_safestSet 22 = .ok (.iload 4, 2) := by decide +kernel
theorem dX6_safestSet_24 : decode cX6_safestSet 24 = .ok (.iload_n 2, 1) := by decide +kernel
theorem dX6_safestSet_25 : decode cX6_safestSet 25 = .ok (.iconst (-1), 1) := by decide +kernel
theorem dX6_safestSet_26 : decode cX6_safestSet 26 = .ok (.ixor, 1) := by decide +kernel
theorem dX6_safestSet_27 : decode cX6_safestSet 27 = .ok (.iand, 1) := by decide +kernel
theorem dX6_safestSet_28 : decode cX6_safestSet 28 = .ok (.ifCond .ne 19, 3) := by decide +kernel
theorem dX6_safestSet_31 : decode cX6_safestSet 31 = .ok (.iload 4, 2) := by decide +kernel
theorem dX6_safestSet_33 : decode cX6_safestSet 33 = .ok (.invokestatic 67, 3) := by decide +kernel
theorem dX6_safestSet_36 : decode cX6_safestSet 36 = .ok (.aload_n 1, 1) := by decide +kernel
theorem dX6_safestSet_37 : decode cX6_safestSet 37 = .ok (.getfield 72, 3) := by decide +kernel
theorem dX6_safestSet_40 : decode cX6_safestSet 40 = .ok (.if_icmp .gt 7, 3) := by decide +kernel
theorem dX6_safestSet_43 : decode cX6_safestSet 43 = .ok (.iconst 1, 1) := by decide +kernel
theorem dX6_safestSet_44 : decode cX6_safestSet 44 = .ok (.goto 4, 3) := by decide +kernel
theorem dX6_safestSet_47 : decode cX6_safestSet 47 = .ok (.iconst 0, 1) := by decide +kernel
theorem dX6_safestSet_48 : decode cX6_safestSet 48 = .ok (.istore 5, 2) := by decide +kernel
theorem dX6_safestSet_50 : decode cX6_safestSet 50 = .ok (.iload 5, 2) := by decide +kernel
theorem dX6_safestSet_52 : decode cX6_safestSet 52 = .ok (.ifCond .eq 17, 3) := by decide +kernel
theorem dX6_safestSet_55 : decode cX6_safestSet 55 = .ok (.aload_n 0, 1) := by decide +kernel
theorem dX6_safestSet_56 : decode cX6_safestSet 56 = .ok (.aload_n 1, 1) := by decide +kernel
theorem dX6_safestSet_57 : decode cX6_safestSet 57 = .ok (.iload 4, 2) := by decide +kernel
theorem dX6_safestSet_59 : decode cX6_safestSet 59 = .ok (.iload_n 3, 1) := by decide +kernel
theorem dX6_safestSet_60 : decode cX6_safestSet 60 = .ok (.invokevirtual 75, 3) := by decide +kernel
theorem dX6_safestSet_63 : decode cX6_safestSet 63 = .ok (.ifCond .eq 6, 3) := by decide +kernel
theorem dX6_safestSet_66 : decode cX6_safestSet 66 = .ok (.iload 4, 2) := by decide +kernel
theorem dX6_safestSet_68 : decode cX6_safestSet 68 = .ok (.istore_n 3, 1) := by decide +kernel
theorem dX6_safestSet_69 : decode cX6_safestSet 69 = .ok (.iinc 4 1, 3) := by decide +kernel
theorem dX6_safestSet_72 : decode cX6_safestSet 72 = .ok (.goto (-61), 3) := by decide +kernel
theorem dX6_safestSet_75 : decode cX6_safestSet 75 = .ok (.iload_n 3, 1) := by decide +kernel
theorem dX6_safestSet_76 : decode cX6_safestSet 76 = .ok (.ireturn, 1) := by decide +kernel
theorem dX6_isSafer_0 : decode cX6_isSafer 0 = .ok (.aload_n 0, 1) := by decide +kernel
theorem dX6_isSafer_1 : decode cX6_isSafer 1 = .ok (.aload_n 1, 1) := by decide +kernel
theorem dX6_isSafer_2 : decode cX6_isSafer 2 = .ok (.iload_n 2, 1) := by decide +kernel
theorem dX6_isSafer_3 : decode cX6_isSafer 3 = .ok (.invokevirtual 79, 3) := by decide +kernel
theorem dX6_isSafer_6 : decode cX6_isSafer 6 = .ok (.istore 4, 2) := by decide +kernel
theorem dX6_isSafer_8 : decode cX6_isSafer 8 = .ok (.aload_n 0, 1) := by decide +kernel
theorem dX6_isSafer_9 : decode cX6_isSafer 9 = .ok (.aload_n 1, 1) := by decide +kernel
theorem dX6_isSafer_10 : decode cX6_isSafer 10 = .ok (.iload_n 3, 1) := by decide +kernel
theorem dX6_isSafer_11 : decode cX6_isSafer 11 = .ok (.invokevirtual 79, 3) := by decide +kernel
theorem dX6_isSafer_14 : decode cX6_isSafer 14 = .ok (.istore 5, 2) := by decide +kernel
theorem dX6_isSafer_16 : decode cX6_isSafer 16 = .ok (.iload 4, 2) := by decide +kernel
theorem dX6_isSafer_18 : decode cX6_isSafer 18 = .ok (.iload 5, 2) := by decide +kernel
theorem dX6_isSafer_20 : decode cX6_isSafer 20 = .ok (.if_icmp .eq 16, 3) := by decide +kernel
theorem dX6_isSafer_23 : decode cX6_isSafer 23 = .ok (.iload 4, 2) := by decide +kernel
theorem dX6_isSafer_25 : decode cX6_isSafer 25 = .ok (.iload 5, 2) := by decide +kernel
theorem dX6_isSafer_27 : decode cX6_isSafer 27 = .ok (.if_icmp .le 7, 3) := by decide +kernel
theorem dX6_isSafer_30 : decode cX6_isSafer 30 = .ok (.iconst 1, 1) := by decide +kernel
theorem dX6_isSafer_31 : decode cX6_isSafer 31 = .ok (.goto 4, 3) := by decide +kernel
theorem dX6_isSafer_34 : decode cX6_isSafer 34 = .ok (.iconst 0, 1) := by decide +kernel
theorem dX6_isSafer_35 : decode cX6_isSafer 35 = .ok (.ireturn, 1) := by decide +kernel
theorem dX6_isSafer_36 : decode cX6_isSafer 36 = .ok (.iload_n 2, 1) := by decide +kernel
theorem dX6_isSafer_37 : decode cX6_isSafer 37 = .ok (.invokestatic 67, 3) := by decide +kernel
theorem dX6_isSafer_40 : decode cX6_isSafer 40 = .ok (.iload_n 3, 1) := by decide +kernel
theorem dX6_isSafer_41 : decode cX6_isSafer 41 = .ok (.invokestatic 67, 3) := by decide +kernel
theorem dX6_isSafer_44 : decode cX6_isSafer 44 = .ok (.if_icmp .ge 7, 3) := by decide +kernel
theorem dX6_isSafer_47 : decode cX6_isSafer 47 = .ok (.iconst 1, 1) := by decide +kernel
theorem dX6_isSafer_48 : decode cX6_isSafer 48 = .ok (.goto 4, 3) := by decide +kernel
theorem dX6_isSafer_51 : decode cX6_isSafer 51 = .ok (.iconst 0, 1) := by decide +kernel
theorem dX6_isSafer_52 : decode cX6_isSafer 52 = .ok (.ireturn, 1) := by decide +kernel
theorem dX6_afterWorstLoss_0 : decode cX6_afterWorstLoss 0 = .ok (.aload_n 0, 1) := by decide +kernel
theorem dX6_afterWorstLoss_1 : decode cX6_afterWorstLoss 1 = .ok (.getfield 15, 3) := by decide +kernel
theorem dX6_afterWorstLoss_4 : decode cX6_afterWorstLoss 4 = .ok (.iload_n 2, 1) := by decide +kernel
theorem dX6_afterWorstLoss_5 : decode cX6_afterWorstLoss 5 = .ok (.iaload, 1) := by decide +kernel
theorem dX6_afterWorstLoss_6 : decode cX6_afterWorstLoss 6 = .ok (.istore_n 3, 1) := by decide +kernel
theorem dX6_afterWorstLoss_7 : decode cX6_afterWorstLoss 7 = .ok (.iconst 0, 1) := by decide +kernel
theorem dX6_afterWorstLoss_8 : decode cX6_afterWorstLoss 8 = .ok (.istore 4, 2) := by decide +kernel
theorem dX6_afterWorstLoss_10 : decode cX6_afterWorstLoss 10 = .ok (.iload 4, 2) := by decide +kernel
theorem dX6_afterWorstLoss_12 : decode cX6_afterWorstLoss 12 = .ok (.aload_n 1, 1) := by decide +kernel
theorem dX6_afterWorstLoss_13 : decode cX6_afterWorstLoss 13 = .ok (.getfield 24, 3) := by decide +kernel
theorem dX6_afterWorstLoss_16 : decode cX6_afterWorstLoss 16 = .ok (.if_icmp .ge 48, 3) := by decide +kernel
theorem dX6_afterWorstLoss_19 : decode cX6_afterWorstLoss 19 = .ok (.iload_n 2, 1) := by decide +kernel
theorem dX6_afterWorstLoss_20 : decode cX6_afterWorstLoss 20 = .ok (.iconst 1, 1) := by decide +kernel
theorem dX6_afterWorstLoss_21 : decode cX6_afterWorstLoss 21 = .ok (.iload 4, 2) := by decide +kernel
theorem dX6_afterWorstLoss_23 : decode cX6_afterWorstLoss 23 = .ok (.ishl, 1) := by decide +kernel
theorem dX6_afterWorstLoss_24 : decode cX6_afterWorstLoss 24 = .ok (.iand, 1) := by decide +kernel
theorem dX6_afterWorstLoss_25 : decode cX6_afterWorstLoss 25 = .ok (.ifCond .eq 33, 3) := by decide +kernel
theorem dX6_afterWorstLoss_28 : decode cX6_afterWorstLoss 28 = .ok (.aload_n 1, 1) := by decide +kernel
theorem dX6_afterWorstLoss_29 : decode cX6_afterWorstLoss 29 = .ok (.getfield 30, 3) := by decide +kernel
theorem dX6_afterWorstLoss_32 : decode cX6_afterWorstLoss 32 = .ok (.iload 4, 2) := by decide +kernel
theorem dX6_afterWorstLoss_34 : decode cX6_afterWorstLoss 34 = .ok (.aaload, 1) := by decide +kernel
theorem dX6_afterWorstLoss_35 : decode cX6_afterWorstLoss 35 = .ok (.getfield 83, 3) := by decide +kernel
theorem dX6_afterWorstLoss_38 : decode cX6_afterWorstLoss 38 = .ok (.iconst 3, 1) := by decide +kernel
theorem dX6_afterWorstLoss_39 : decode cX6_afterWorstLoss 39 = .ok (.if_icmp .eq 19, 3) := by decide +kernel
theorem dX6_afterWorstLoss_42 : decode cX6_afterWorstLoss 42 = .ok (.iload_n 3, 1) := by decide +kernel
theorem dX6_afterWorstLoss_43 : decode cX6_afterWorstLoss 43 = .ok (.aload_n 0, 1) := by decide +kernel
theorem dX6_afterWorstLoss_44 : decode cX6_afterWorstLoss 44 = .ok (.getfield 15, 3) := by decide +kernel
theorem dX6_afterWorstLoss_47 : decode cX6_afterWorstLoss 47 = .ok (.iload_n 2, 1) := by decide +kernel
theorem dX6_afterWorstLoss_48 : decode cX6_afterWorstLoss 48 = .ok (.iconst 1, 1) := by decide +kernel
theorem dX6_afterWorstLoss_49 : decode cX6_afterWorstLoss 49 = .ok (.iload 4, 2) := by decide +kernel
theorem dX6_afterWorstLoss_51 : decode cX6_afterWorstLoss 51 = .ok (.ishl, 1) := by decide +kernel
theorem dX6_afterWorstLoss_52 : decode cX6_afterWorstLoss 52 = .ok (.ixor, 1) := by decide +kernel
theorem dX6_afterWorstLoss_53 : decode cX6_afterWorstLoss 53 = .ok (.iaload, 1) := by decide +kernel
theorem dX6_afterWorstLoss_54 : decode cX6_afterWorstLoss 54 = .ok (.invokestatic 86, 3) := by decide +kernel
theorem dX6_afterWorstLoss_57 : decode cX6_afterWorstLoss 57 = .ok (.istore_n 3, 1) := by decide +kernel
theorem dX6_afterWorstLoss_58 : decode cX6_afterWorstLoss 58 = .ok (.iinc 4 1, 3) := by decide +kernel
theorem dX6_afterWorstLoss_61 : decode cX6_afterWorstLoss 61 = .ok (.goto (-51), 3) := by decide +kernel
theorem dX6_afterWorstLoss_64 : decode cX6_afterWorstLoss 64 = .ok (.iload_n 3, 1) := by decide +kernel
theorem dX6_afterWorstLoss_65 : decode cX6_afterWorstLoss 65 = .ok (.ireturn, 1) := by decide +kernel
theorem dX6_markSetsOf_0 : decode cX6_markSetsOf 0 = .ok (.iconst 0, 1) := by decide +kernel
theorem dX6_markSetsOf_1 : decode cX6_markSetsOf 1 = .ok (.istore_n 2, 1) := by decide +kernel
theorem dX6_markSetsOf_2 : decode cX6_markSetsOf 2 = .ok (.iload_n 2, 1) := by decide +kernel
theorem dX6_markSetsOf_3 : decode cX6_markSetsOf 3 = .ok (.sipush 256, 3) := by decide +kernel
theorem dX6_markSetsOf_6 : decode cX6_markSetsOf 6 = .ok (.if_icmp .ge 30, 3) := by decide +kernel
theorem dX6_markSetsOf_9 : decode cX6_markSetsOf 9 = .ok (.aload_n 0, 1) := by decide +kernel
theorem dX6_markSetsOf_10 : decode cX6_markSetsOf 10 = .ok (.getfield 21, 3) := by decide +kernel
theorem dX6_markSetsOf_13 : decode cX6_markSetsOf 13 = .ok (.iload_n 2, 1) := by decide +kernel
theorem dX6_markSetsOf_14 : decode cX6_markSetsOf 14 = .ok (.aload_n 0, 1) := by decide +kernel
theorem dX6_markSetsOf_15 : decode cX6_markSetsOf 15 = .ok (.getfield 18, 3) := by decide +kernel
theorem dX6_markSetsOf_18 : decode cX6_markSetsOf 18 = .ok (.iload_n 2, 1) := by decide +kernel
theorem dX6_markSetsOf_19 : decode cX6_markSetsOf 19 = .ok (.iaload, 1) := by decide +kernel
theorem dX6_markSetsOf_20 : decode cX6_markSetsOf 20 = .ok (.iload_n 1, 1) := by decide +kernel
theorem dX6_markSetsOf_21 : decode cX6_markSetsOf 21 = .ok (.if_icmp .lt 7, 3) := by decide +kernel
theorem dX6_markSetsOf_24 : decode cX6_markSetsOf 24 = .ok (.iconst 1, 1) := by decide +kernel
theorem dX6_markSetsOf_25 : decode cX6_markSetsOf 25 = .ok (.goto 4, 3) := by decide +kernel
theorem dX6_markSetsOf_28 : decode cX6_markSetsOf 28 = .ok (.iconst 0, 1) := by decide +kernel
theorem dX6_markSetsOf_29 : decode cX6_markSetsOf 29 = .ok (.iastore, 1) := by decide +kernel
theorem dX6_markSetsOf_30 : decode cX6_markSetsOf 30 = .ok (.iinc 2 1, 3) := by decide +kernel
theorem dX6_markSetsOf_33 : decode cX6_markSetsOf 33 = .ok (.goto (-31), 3) := by decide +kernel
theorem dX6_markSetsOf_36 : decode cX6_markSetsOf 36 = .ok (.return_, 1) := by decide +kernel
