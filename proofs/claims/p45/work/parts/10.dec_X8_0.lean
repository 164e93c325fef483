theorem dX8_init_0 : decode cX8_init 0 = .ok (.aload_n 0, 1) := by decide +kernel
theorem dX8_init_1 : decode cX8_init 1 = .ok (.invokespecial 3, 3) := by decide +kernel
theorem dX8_init_4 : decode cX8_init 4 = .ok (.aload_n 0, 1) := by decide +kernel
theorem dX8_init_5 : decode cX8_init 5 = .ok (.sipush 6561, 3) := by decide +kernel
theorem dX8_init_8 : decode cX8_init 8 = .ok (.newarray .int, 2) := by decide +kernel
theorem dX8_init_10 : decode cX8_init 10 = .ok (.putfield 11, 3) := by decide +kernel
theorem dX8_init_13 : decode cX8_init 13 = .ok (.aload_n 0, 1) := by decide +kernel
theorem dX8_init_14 : decode cX8_init 14 = .ok (.sipush 256, 3) := by decide +kernel
theorem dX8_init_17 : decode cX8_init 17 = .ok (.newarray .int, 2) := by decide +kernel
theorem dX8_init_19 : decode cX8_init 19 = .ok (.putfield 15, 3) := by decide +kernel
theorem dX8_init_22 : decode cX8_init 22 = .ok (.iconst 1, 1) := by decide +kernel
theorem dX8_init_23 : decode cX8_init 23 = .ok (.istore_n 1, 1) := by decide +kernel
theorem dX8_init_24 : decode cX8_init 24 = .ok (.iload_n 1, 1) := by decide +kernel
theorem dX8_init_25 : decode cX8_init 25 = .ok (.sipush 256, 3) := by decide +kernel
theorem dX8_init_28 : decode cX8_init 28 = .ok (.if_icmp .ge 29, 3) := by decide +kernel
theorem dX8_init_31 : decode cX8_init 31 = .ok (.aload_n 0, 1) := by decide +kernel
theorem dX8_init_32 : decode cX8_init 32 = .ok (.getfield 15, 3) := by decide +kernel
theorem dX8_init_35 : decode cX8_init 35 = .ok (.iload_n 1, 1) := by decide +kernel
theorem dX8_init_36 : decode cX8_init 36 = .ok (.iconst 3, 1) := by decide +kernel
theorem dX8_init_37 : decode cX8_init 37 = .ok (.aload_n 0, 1) := by decide +kernel
theorem dX8_init_38 : decode cX8_init 38 = .ok (.getfield 15, 3) := by decide +kernel
theorem dX8_init_41 : decode cX8_init 41 = .ok (.iload_n 1, 1) := by decide +kernel
theorem dX8_init_42 : decode cX8_init 42 = .ok (.iconst 2, 1) := by decide +kernel
theorem dX8_init_43 : decode cX8_init 43 = .ok (.idiv, 1) := by decide +kernel
theorem dX8_init_44 : decode cX8_init 44 = .ok (.iaload, 1) := by decide +kernel
theorem dX8_init_45 : decode cX8_init 45 = .ok (.imul, 1) := by decide +kernel
theorem dX8_init_46 : decode cX8_init 46 = .ok (.iload_n 1, 1) := by decide +kernel
theorem dX8_init_47 : decode cX8_init 47 = .ok (.iconst 2, 1) := by decide +kernel
theorem dX8_init_48 : decode cX8_init 48 = .ok (.irem, 1) := by decide +kernel
theorem dX8_init_49 : decode cX8_init 49 = .ok (.iadd, 1) := by decide +kernel
theorem dX8_init_50 : decode cX8_init 50 = .ok (.iastore, 1) := by decide +kernel
theorem dX8_init_51 : decode cX8_init 51 = .ok (.iinc 1 1, 3) := by decide +kernel
theorem dX8_init_54 : decode cX8_init 54 = .ok (.goto (-30), 3) := by decide +kernel
theorem dX8_init_57 : decode cX8_init 57 = .ok (.return_, 1) := by decide +kernel
theorem dX8_leadAfter_0 : decode cX8_leadAfter 0 = .ok (.iconst 0, 1) := by decide +kernel
theorem dX8_leadAfter_1 : decode cX8_leadAfter 1 = .ok (.istore 4, 2) := by decide +kernel
theorem dX8_leadAfter_3 : decode cX8_leadAfter 3 = .ok (.iload 4, 2) := by decide +kernel
theorem dX8_leadAfter_5 : decode cX8_leadAfter 5 = .ok (.sipush 6561, 3) := by decide +kernel
theorem dX8_leadAfter_8 : decode cX8_leadAfter 8 = .ok (.if_icmp .ge 18, 3) := by decide +kernel
theorem dX8_leadAfter_11 : decode cX8_leadAfter 11 = .ok (.aload_n 0, 1) := by decide +kernel
theorem dX8_leadAfter_12 : decode cX8_leadAfter 12 = .ok (.getfield 11, 3) := by decide +kernel
theorem dX8_leadAfter_15 : decode cX8_leadAfter 15 = .ok (.iload 4, 2) := by decide +kernel
theorem dX8_leadAfter_17 : decode cX8_leadAfter 17 = .ok (.ldc 18, 2) := by decide +kernel
theorem dX8_leadAfter_19 : decode cX8_leadAfter 19 = .ok (.iastore, 1) := by decide +kernel
theorem dX8_leadAfter_20 : decode cX8_leadAfter 20 = .ok (.iinc 4 1, 3) := by decide +kernel
theorem dX8_leadAfter_23 : decode cX8_leadAfter 23 = .ok (.goto (-20), 3) := by decide +kernel
theorem dX8_leadAfter_26 : decode cX8_leadAfter 26 = .ok (.aload_n 0, 1) := by decide +kernel
theorem dX8_leadAfter_27 : decode cX8_leadAfter 27 = .ok (.aload_n 1, 1) := by decide +kernel
theorem dX8_leadAfter_28 : decode cX8_leadAfter 28 = .ok (.iconst 0, 1) := by decide +kernel
theorem dX8_leadAfter_29 : decode cX8_leadAfter 29 = .ok (.iconst 0, 1) := by decide +kernel
theorem dX8_leadAfter_30 : decode cX8_leadAfter 30 = .ok (.iload_n 2, 1) := by decide +kernel
theorem dX8_leadAfter_31 : decode cX8_leadAfter 31 = .ok (.iload_n 3, 1) := by decide +kernel
theorem dX8_leadAfter_32 : decode cX8_leadAfter 32 = .ok (.invokestatic 19, 3) := by decide +kernel
theorem dX8_leadAfter_35 : decode cX8_leadAfter 35 = .ok (.ireturn, 1) := by decide +kernel
theorem dX8_lead_0 : decode cX8_lead 0 = .ok (.iload 5, 2) := by decide +kernel
theorem dX8_lead_2 : decode cX8_lead 2 = .ok (.ifCond .le 8, 3) := by decide +kernel
theorem dX8_lead_5 : decode cX8_lead 5 = .ok (.iload 4, 2) := by decide +kernel
theorem dX8_lead_7 : decode cX8_lead 7 = .ok (.ifCond .ne 17, 3) := by decide +kernel
theorem dX8_lead_10 : decode cX8_lead 10 = .ok (.aload_n 1, 1) := by decide +kernel
theorem dX8_lead_11 : decode cX8_lead 11 = .ok (.getfield 23, 3) := by decide +kernel
theorem dX8_lead_14 : decode cX8_lead 14 = .ok (.iload_n 2, 1) := by decide +kernel
theorem dX8_lead_15 : decode cX8_lead 15 = .ok (.iaload, 1) := by decide +kernel
theorem dX8_lead_16 : decode cX8_lead 16 = .ok (.aload_n 1, 1) := by decide +kernel
theorem dX8_lead_17 : decode cX8_lead 17 = .ok (.getfield 23, 3) := by decide +kernel
theorem dX8_lead_20 : decode cX8_lead 20 = .ok (.iload_n 3, 1) := by decide +kernel
theorem dX8_lead_21 : decode cX8_lead 21 = .ok (.iaload, 1) := by decide +kernel
theorem dX8_lead_22 : decode cX8_lead 22 = .ok (.isub, 1) := by decide +kernel
theorem dX8_lead_23 : decode cX8_lead 23 = .ok (.ireturn, 1) := by decide +kernel
theorem dX8_lead_24 : decode cX8_lead 24 = .ok (.aload_n 0, 1) := by decide +kernel
theorem dX8_lead_25 : decode cX8_lead 25 = .ok (.getfield 15, 3) := by decide +kernel
theorem dX8_lead_28 : decode cX8_lead 28 = .ok (.iload_n 2, 1) := by decide +kernel
theorem dX8_lead_29 : decode cX8_lead 29 = .ok (.iaload, 1) := by decide +kernel
theorem dX8_lead_30 : decode cX8_lead 30 = .ok (.iconst 2, 1) := by decide +kernel
theorem dX8_lead_31 : decode cX8_lead 31 = .ok (.aload_n 0, 1) := by decide +kernel
theorem dX8_lead_32 : decode cX8_lead 32 = .ok (.getfield 15, 3) := by decide +kernel
theorem dX8_lead_35 : decode cX8_lead 35 = .ok (.iload_n 3, 1) := by decide +kernel
theorem dX8_lead_36 : decode cX8_lead 36 = .ok (.iaload, 1) := by decide +kernel
theorem dX8_lead_37 : decode cX8_lead 37 = .ok (.imul, 1) := by decide +kernel
theorem dX8_lead_38 : decode cX8_lead 38 = .ok (.iadd, 1) := by decide +kernel
theorem dX8_lead_39 : decode cX8_lead 39 = .ok (.istore 6, 2) := by decide +kernel
theorem dX8_lead_41 : decode cX8_lead 41 = .ok (.aload_n 0, 1) := by decide +kernel
theorem dX8_lead_42 : decode cX8_lead 42 = .ok (.getfield 11, 3) := by decide +kernel
theorem dX8_lead_45 : decode cX8_lead 45 = .ok (.iload 6, 2) := by decide +kernel
theorem dX8_lead_47 : decode cX8_lead 47 = .ok (.iaload, 1) := by decide +kernel
theorem dX8_lead_48 : decode cX8_lead 48 = .ok (.ldc 18, 2) := by decide +kernel
theorem dX8_lead_50 : decode cX8_lead 50 = .ok (.if_icmp .eq 11, 3) := by decide +kernel
theorem dX8_lead_53 : decode cX8_lead 53 = .ok (.aload_n 0, 1) := by decide +kernel
theorem dX8_lead_54 : decode cX8_lead 54 = .ok (.getfield 11, 3) := by decide +kernel
theorem dX8_lead_57 : decode cX8_lead 57 = .ok (.iload 6, 2) := by decide +kernel
theorem dX8_lead_59 : decode cX8_lead 59 = .ok (.iaload, 1) := by decide +kernel
theorem dX8_lead_60 : decode cX8_lead 60 = .ok (.ireturn, 1) := by decide +kernel
theorem dX8_lead_61 : decode cX8_lead 61 = .ok (.ldc 28, 2) := by decide +kernel
theorem dX8_lead_63 : decode cX8_lead 63 = .ok (.istore 7, 2) := by decide +kernel
theorem dX8_lead_65 : decode cX8_lead 65 = .ok (.iconst 0, 1) := by decide +kernel
theorem dX8_lead_66 : decode cX8_lead 66 = .ok (.istore 8, 2) := by decide +kernel
theorem dX8_lead_68 : decode cX8_lead 68 = .ok (.iload 8, 2) := by decide +kernel
theorem dX8_lead_70 : decode cX8_lead 70 = .ok (.bipush 8, 2) := by decide +kernel
theorem dX8_lead_72 : decode cX8_lead 72 = .ok (.if_icmp .ge 50, 3) := by decide +kernel
theorem dX8_lead_75 : decode cX8_lead 75 = .ok (.iconst 1, 1) := by decide +kernel
theorem dX8_lead_76 : decode cX8_lead 76 = .ok (.iload 8, 2) := by decide +kernel
theorem dX8_lead_78 : decode cX8_lead 78 = .ok (.ishl, 1) := by decide +kernel
theorem dX8_lead_79 : decode cX8_lead 79 = .ok (.istore 9, 2) := by decide +kernel
theorem dX8_lead_81 : decode cX8_lead 81 = .ok (.iload 4, 2) := by decide +kernel
theorem dX8_lead_83 : decode cX8_lead 83 = .ok (.iload 9, 2) := by decide +kernel
theorem dX8_lead_85 : decode cX8_lead 85 = .ok (.iand, 1) := by decide +kernel
theorem dX8_lead_86 : decode cX8_lead 86 = .ok (.ifCond .eq 30, 3) := by decide +kernel
theorem dX8_lead_89 : decode cX8_lead 89 = .ok (.iload 7, 2) := by decide +kernel
theorem dX8_lead_91 : decode cX8_lead 91 = .ok (.aload_n 0, 1) := by decide +kernel
theorem dX8_lead_92 : decode cX8_lead 92 = .ok (.aload_n 1, 1) := by decide +kernel
theorem dX8_lead_93 : decode cX8_lead 93 = .ok (.iload_n 3, 1) := by decide +kernel
theorem dX8_lead_94 : decode cX8_lead 94 = .ok (.iload_n 2, 1) := by decide +kernel
theorem dX8_lead_95 : decode cX8_lead 95 = .ok (.iload 9, 2) := by decide +kernel
theorem dX8_lead_97 : decode cX8_lead 97 = .ok (.ior, 1) := by decide +kernel
theorem dX8_lead_98 : decode cX8_lead 98 = .ok (.iload 4, 2) := by decide +kernel
theorem dX8_lead_100 : decode cX8_lead 100 = .ok (.iload 9, 2) := by decide +kernel
theorem dX8_lead_102 : decode cX8_lead 102 = .ok (.ixor, 1) := by decide +kernel
theorem dX8_lead_103 : decode cX8_lead 103 = .ok (.iload 5, 2) := by decide +kernel
theorem dX8_lead_105 : decode cX8_lead 105 = .ok (.iconst 1, 1) := by decide +kernel
theorem dX8_lead_106 : decode cX8_lead 106 = .ok (.isub, 1) := by decide +kernel
theorem dX8_lead_107 : decode cX8_lead 107 = .ok (.invokestatic 19, 3) := by decide +kernel
theorem dX8_lead_110 : decode cX8_lead 110 = .ok (.ineg, 1) := by decide +kernel
theorem dX8_lead_111 : decode cX8_lead 111 = .ok (.invokestatic 29, 3) := by decide +kernel
theorem dX8_lead_114 : decode cX8_lead 114 = .ok (.istore 7, 2) := by decide +kernel
theorem dX8_lead_116 : decode cX8_lead 116 = .ok (.iinc 8 1, 3) := by decide +kernel
theorem dX8_lead_119 : decode cX8_lead 119 = .ok (.goto (-51), 3) := by decide +kernel
theorem dX8_lead_122 : decode cX8_lead 122 = .ok (.aload_n 0, 1) := by decide +kernel
theorem dX8_lead_123 : decode cX8_lead 123 = .ok (.getfield 11, 3) := by decide +kernel
theorem dX8_lead_126 : decode cX8_lead 126 = .ok (.iload 6, 2) := by decide +kernel
theorem dX8_lead_128 : decode cX8_lead 128 = .ok (.iload 7, 2) := by decide +kernel
theorem dX8_lead_130 : decode cX8_lead 130 = .ok (.iastore, 1) := by decide +kernel
theorem dX8_lead_131 : decode cX8_lead 131 = .ok (.iload 7, 2) := by decide +kernel
theorem dX8_lead_133 : decode cX8_lead 133 = .ok (.ireturn, 1) := by decide +kernel
