theorem dX4_init_0 : decode cX4_init 0 = .ok (.aload_n 0, 1) := by decide +kernel
theorem dX4_init_1 : decode cX4_init 1 = .ok (.invokespecial 3, 3) := by decide +kernel
theorem dX4_init_4 : decode cX4_init 4 = .ok (.return_, 1) := by decide +kernel
theorem dX4_becomeLike_0 : decode cX4_becomeLike 0 = .ok (.aload_n 0, 1) := by decide +kernel
theorem dX4_becomeLike_1 : decode cX4_becomeLike 1 = .ok (.aload_n 1, 1) := by decide +kernel
theorem dX4_becomeLike_2 : decode cX4_becomeLike 2 = .ok (.getfield 9, 3) := by decide +kernel
theorem dX4_becomeLike_5 : decode cX4_becomeLike 5 = .ok (.putfield 9, 3) := by decide +kernel
theorem dX4_becomeLike_8 : decode cX4_becomeLike 8 = .ok (.aload_n 0, 1) := by decide +kernel
theorem dX4_becomeLike_9 : decode cX4_becomeLike 9 = .ok (.aload_n 1, 1) := by decide +kernel
theorem dX4_becomeLike_10 : decode cX4_becomeLike 10 = .ok (.getfield 15, 3) := by decide +kernel
theorem dX4_becomeLike_13 : decode cX4_becomeLike 13 = .ok (.putfield 15, 3) := by decide +kernel
theorem dX4_becomeLike_16 : decode cX4_becomeLike 16 = .ok (.aload_n 0, 1) := by decide +kernel
theorem dX4_becomeLike_17 : decode cX4_becomeLike 17 = .ok (.aload_n 1, 1) := by decide +kernel
theorem dX4_becomeLike_18 : decode cX4_becomeLike 18 = .ok (.getfield 18, 3) := by decide +kernel
theorem dX4_becomeLike_21 : decode cX4_becomeLike 21 = .ok (.putfield 18, 3) := by decide +kernel
theorem dX4_becomeLike_24 : decode cX4_becomeLike 24 = .ok (.aload_n 0, 1) := by decide +kernel
theorem dX4_becomeLike_25 : decode cX4_becomeLike 25 = .ok (.aload_n 1, 1) := by decide +kernel
theorem dX4_becomeLike_26 : decode cX4_becomeLike 26 = .ok (.getfield 21, 3) := by decide +kernel
theorem dX4_becomeLike_29 : decode cX4_becomeLike 29 = .ok (.putfield 21, 3) := by decide +kernel
theorem dX4_becomeLike_32 : decode cX4_becomeLike 32 = .ok (.aload_n 0, 1) := by decide +kernel
theorem dX4_becomeLike_33 : decode cX4_becomeLike 33 = .ok (.aload_n 1, 1) := by decide +kernel
theorem dX4_becomeLike_34 : decode cX4_becomeLike 34 = .ok (.getfield 24, 3) := by decide +kernel
theorem dX4_becomeLike_37 : decode cX4_becomeLike 37 = .ok (.putfield 24, 3) := by decide +kernel
theorem dX4_becomeLike_40 : decode cX4_becomeLike 40 = .ok (.aload_n 0, 1) := by decide +kernel
theorem dX4_becomeLike_41 : decode cX4_becomeLike 41 = .ok (.aload_n 1, 1) := by decide +kernel
theorem dX4_becomeLike_42 : decode cX4_becomeLike 42 = .ok (.getfield 27, 3) := by decide +kernel
theorem dX4_becomeLike_45 : decode cX4_becomeLike 45 = .ok (.putfield 27, 3) := by decide +kernel
theorem dX4_becomeLike_48 : decode cX4_becomeLike 48 = .ok (.return_, 1) := by decide +kernel
theorem dX4_isOf_0 : decode cX4_isOf 0 = .ok (.iload_n 1, 1) := by decide +kernel
theorem dX4_isOf_1 : decode cX4_isOf 1 = .ok (.aload_n 0, 1) := by decide +kernel
theorem dX4_isOf_2 : decode cX4_isOf 2 = .ok (.getfield 9, 3) := by decide +kernel
theorem dX4_isOf_5 : decode cX4_isOf 5 = .ok (.if_icmp .eq 33, 3) := by decide +kernel
theorem dX4_isOf_8 : decode cX4_isOf 8 = .ok (.iload_n 1, 1) := by decide +kernel
theorem dX4_isOf_9 : decode cX4_isOf 9 = .ok (.ifCond .eq 29, 3) := by decide +kernel
theorem dX4_isOf_12 : decode cX4_isOf 12 = .ok (.iload_n 1, 1) := by decide +kernel
theorem dX4_isOf_13 : decode cX4_isOf 13 = .ok (.iconst 1, 1) := by decide +kernel
theorem dX4_isOf_14 : decode cX4_isOf 14 = .ok (.if_icmp .ne 11, 3) := by decide +kernel
theorem dX4_isOf_17 : decode cX4_isOf 17 = .ok (.aload_n 0, 1) := by decide +kernel
theorem dX4_isOf_18 : decode cX4_isOf 18 = .ok (.getfield 9, 3) := by decide +kernel
theorem dX4_isOf_21 : decode cX4_isOf 21 = .ok (.iconst 4, 1) := by decide +kernel
theorem dX4_isOf_22 : decode cX4_isOf 22 = .ok (.if_icmp .eq 16, 3) := by decide +kernel
theorem dX4_isOf_25 : decode cX4_isOf 25 = .ok (.iload_n 1, 1) := by decide +kernel
theorem dX4_isOf_26 : decode cX4_isOf 26 = .ok (.iconst 2, 1) := by decide +kernel
theorem dX4_isOf_27 : decode cX4_isOf 27 = .ok (.if_icmp .ne 15, 3) := by decide +kernel
theorem dX4_isOf_30 : decode cX4_isOf 30 = .ok (.aload_n 0, 1) := by decide +kernel
theorem dX4_isOf_31 : decode cX4_isOf 31 = .ok (.getfield 9, 3) := by decide +kernel
theorem dX4_isOf_34 : decode cX4_isOf 34 = .ok (.iconst 5, 1) := by decide +kernel
theorem dX4_isOf_35 : decode cX4_isOf 35 = .ok (.if_icmp .ne 7, 3) := by decide +kernel
theorem dX4_isOf_38 : decode cX4_isOf 38 = .ok (.iconst 1, 1) := by decide +kernel
theorem dX4_isOf_39 : decode cX4_isOf 39 = .ok (.goto 4, 3) := by decide +kernel
theorem dX4_isOf_42 : decode cX4_isOf 42 = .ok (.iconst 0, 1) := by decide +kernel
theorem dX4_isOf_43 : decode cX4_isOf 43 = .ok (.ireturn, 1) := by decide +kernel
theorem dX4_bareWarmth_0 : decode cX4_bareWarmth 0 = .ok (.iconst 0, 1) := by decide +kernel
theorem dX4_bareWarmth_1 : decode cX4_bareWarmth 1 = .ok (.aload_n 0, 1) := by decide +kernel
theorem dX4_bareWarmth_2 : decode cX4_bareWarmth 2 = .ok (.getfield 21, 3) := by decide +kernel
theorem dX4_bareWarmth_5 : decode cX4_bareWarmth 5 = .ok (.aload_n 0, 1) := by decide +kernel
theorem dX4_bareWarmth_6 : decode cX4_bareWarmth 6 = .ok (.getfield 24, 3) := by decide +kernel
theorem dX4_bareWarmth_9 : decode cX4_bareWarmth 9 = .ok (.iconst 3, 1) := by decide +kernel
theorem dX4_bareWarmth_10 : decode cX4_bareWarmth 10 = .ok (.idiv, 1) := by decide +kernel
theorem dX4_bareWarmth_11 : decode cX4_bareWarmth 11 = .ok (.isub, 1) := by decide +kernel
theorem dX4_bareWarmth_12 : decode cX4_bareWarmth 12 = .ok (.invokestatic 30, 3) := by decide +kernel
theorem dX4_bareWarmth_15 : decode cX4_bareWarmth 15 = .ok (.ireturn, 1) := by decide +kernel
theorem dX4_warmth_0 : decode cX4_warmth 0 = .ok (.aload_n 0, 1) := by decide +kernel
theorem dX4_warmth_1 : decode cX4_warmth 1 = .ok (.invokevirtual 36, 3) := by decide +kernel
theorem dX4_warmth_4 : decode cX4_warmth 4 = .ok (.istore_n 1, 1) := by decide +kernel
theorem dX4_warmth_5 : decode cX4_warmth 5 = .ok (.aload_n 0, 1) := by decide +kernel
theorem dX4_warmth_6 : decode cX4_warmth 6 = .ok (.getfield 9, 3) := by decide +kernel
theorem dX4_warmth_9 : decode cX4_warmth 9 = .ok (.tableswitch 64 1 5 #[35, 39, 64, 47, 39], 35) := by decide +kernel
theorem dX4_warmth_44 : decode cX4_warmth 44 = .ok (.iload_n 1, 1) := by decide +kernel
theorem dX4_warmth_45 : decode cX4_warmth 45 = .ok (.iconst 2, 1) := by decide +kernel
theorem dX4_warmth_46 : decode cX4_warmth 46 = .ok (.iadd, 1) := by decide +kernel
theorem dX4_warmth_47 : decode cX4_warmth 47 = .ok (.ireturn, 1) := by decide +kernel
theorem dX4_warmth_48 : decode cX4_warmth 48 = .ok (.iconst 0, 1) := by decide +kernel
theorem dX4_warmth_49 : decode cX4_warmth 49 = .ok (.iload_n 1, 1) := by decide +kernel
theorem dX4_warmth_50 : decode cX4_warmth 50 = .ok (.iconst 1, 1) := by decide +kernel
theorem dX4_warmth_51 : decode cX4_warmth 51 = .ok (.isub, 1) := by decide +kernel
theorem dX4_warmth_52 : decode cX4_warmth 52 = .ok (.invokestatic 30, 3) := by decide +kernel
theorem dX4_warmth_55 : decode cX4_warmth 55 = .ok (.ireturn, 1) := by decide +kernel
theorem dX4_warmth_56 : decode cX4_warmth 56 = .ok (.aload_n 0, 1) := by decide +kernel
theorem dX4_warmth_57 : decode cX4_warmth 57 = .ok (.getfield 24, 3) := by decide +kernel
theorem dX4_warmth_60 : decode cX4_warmth 60 = .ok (.bipush 6, 2) := by decide +kernel
theorem dX4_warmth_62 : decode cX4_warmth 62 = .ok (.if_icmp .ge 9, 3) := by decide +kernel
theorem dX4_warmth_65 : decode cX4_warmth 65 = .ok (.iload_n 1, 1) := by decide +kernel
theorem dX4_warmth_66 : decode cX4_warmth 66 = .ok (.iconst 3, 1) := by decide +kernel
theorem dX4_warmth_67 : decode cX4_warmth 67 = .ok (.iadd, 1) := by decide +kernel
theorem dX4_warmth_68 : decode cX4_warmth 68 = .ok (.goto 4, 3) := by decide +kernel
theorem dX4_warmth_71 : decode cX4_warmth 71 = .ok (.iload_n 1, 1) := by decide +kernel
theorem dX4_warmth_72 : decode cX4_warmth 72 = .ok (.ireturn, 1) := by decide +kernel
theorem dX4_warmth_73 : decode cX4_warmth 73 = .ok (.iload_n 1, 1) := by decide +kernel
theorem dX4_warmth_74 : decode cX4_warmth 74 = .ok (.ireturn, 1) := by decide +kernel
theorem dX4_goesOn_0 : decode cX4_goesOn 0 = .ok (.aload_n 0, 1) := by decide +kernel
theorem dX4_goesOn_1 : decode cX4_goesOn 1 = .ok (.getfield 18, 3) := by decide +kernel
theorem dX4_goesOn_4 : decode cX4_goesOn 4 = .ok (.iload_n 1, 1) := by decide +kernel
theorem dX4_goesOn_5 : decode cX4_goesOn 5 = .ok (.if_icmp .eq 11, 3) := by decide +kernel
theorem dX4_goesOn_8 : decode cX4_goesOn 8 = .ok (.aload_n 0, 1) := by decide +kernel
theorem dX4_goesOn_9 : decode cX4_goesOn 9 = .ok (.iconst 2, 1) := by decide +kernel
theorem dX4_goesOn_10 : decode cX4_goesOn 10 = .ok (.invokevirtual 40, 3) := by decide +kernel
theorem dX4_goesOn_13 : decode cX4_goesOn 13 = .ok (.ifCond .eq 7, 3) := by decide +kernel
theorem dX4_goesOn_16 : decode cX4_goesOn 16 = .ok (.iconst 1, 1) := by decide +kernel
theorem dX4_goesOn_17 : decode cX4_goesOn 17 = .ok (.goto 4, 3) := by decide +kernel
theorem dX4_goesOn_20 : decode cX4_goesOn 20 = .ok (.iconst 0, 1) := by decide +kernel
theorem dX4_goesOn_21 : decode cX4_goesOn 21 = .ok (.ireturn, 1) := by decide +kernel
theorem dX4_makesPairWith_0 : decode cX4_makesPairWith 0 = .ok (.aload_n 0, 1) := by decide +kernel
theorem dX4_makesPairWith_1 : decode cX4_makesPairWith 1 = .ok (.iconst 0, 1) := by decide +kernel
theorem dX4_makesPairWith_2 : decode cX4_makesPairWith 2 = .ok (.invokevirtual 44, 3) := by decide +kernel
theorem dX4_makesPairWith_5 : decode cX4_makesPairWith 5 = .ok (.ifCond .eq 11, 3) := by decide +kernel
theorem dX4_makesPairWith_8 : decode cX4_makesPairWith 8 = .ok (.aload_n 1, 1) := by decide +kernel
theorem dX4_makesPairWith_9 : decode cX4_makesPairWith 9 = .ok (.iconst 1, 1) := by decide +kernel
theorem dX4_makesPairWith_10 : decode cX4_makesPairWith 10 = .ok (.invokevirtual 44, 3) := by decide +kernel
theorem dX4_makesPairWith_13 : decode cX4_makesPairWith 13 = .ok (.ifCond .ne 19, 3) := by decide +kernel
theorem dX4_makesPairWith_16 : decode cX4_makesPairWith 16 = .ok (.aload_n 0, 1) := by decide +kernel
theorem dX4_makesPairWith_17 : decode cX4_makesPairWith 17 = .ok (.iconst 1, 1) := by decide +kernel
theorem dX4_makesPairWith_18 : decode cX4_makesPairWith 18 = .ok (.invokevirtual 44, 3) := by decide +kernel
theorem dX4_makesPairWith_21 : decode cX4_makesPairWith 21 = .ok (.ifCond .eq 15, 3) := by decide +kernel
theorem dX4_makesPairWith_24 : decode cX4_makesPairWith 24 = .ok (.aload_n 1, 1) := by decide +kernel
theorem dX4_makesPairWith_25 : decode cX4_makesPairWith 25 = .ok (.iconst 0, 1) := by decide +kernel
theorem dX4_makesPairWith_26 : decode cX4_makesPairWith 26 = .ok (.invokevirtual 44, 3) := by decide +kernel
theorem dX4_makesPairWith_29 : decode cX4_makesPairWith 29 = .ok (.ifCond .eq 7, 3) := by decide +kernel
theorem dX4_makesPairWith_32 : decode cX4_makesPairWith 32 = .ok (.iconst 1, 1) := by decide +kernel
theorem dX4_makesPairWith_33 : decode cX4_makesPairWith 33 = .ok (.goto 4, 3) := by decide +kernel
theorem dX4_makesPairWith_36 : decode cX4_makesPairWith 36 = .ok (.iconst 0, 1) := by decide +kernel
theorem dX4_makesPairWith_37 : decode cX4_makesPairWith 37 = .ok (.ireturn, 1) := by decide +kernel
theorem dX4_goodWith_0 : decode cX4_goodWith 0 = .ok (.aload_n 0, 1) := by decide +kernel
theorem dX4_goodWith_1 : decode cX4_goodWith 1 = .ok (.aload_n 1, 1) := by decide +kernel
theorem dX4_goodWith_2 : decode cX4_goodWith 2 = .ok (.invokevirtual 47, 3) := by decide +kernel
theorem dX4_goodWith_5 : decode cX4_goodWith 5 = .ok (.ifCond .ne 6, 3) := by decide +kernel
theorem dX4_goodWith_8 : decode cX4_goodWith 8 = .ok (.bipush (-9), 2) := by decide +kernel
theorem dX4_goodWith_10 : decode cX4_goodWith 10 = .ok (.ireturn, 1) := by decide +kernel
theorem dX4_goodWith_11 : decode cX4_goodWith 11 = .ok (.aload_n 0, 1) := by decide +kernel
theorem dX4_goodWith_12 : decode cX4_goodWith 12 = .ok (.invokevirtual 51, 3) := by decide +kernel
theorem dX4_goodWith_15 : decode cX4_goodWith 15 = .ok (.aload_n 1, 1) := by decide +kernel
theorem dX4_goodWith_16 : decode cX4_goodWith 16 = .ok (.invokevirtual 51, 3) := by decide +kernel
theorem dX4_goodWith_19 : decode cX4_goodWith 19 = .ok (.iadd, 1) := by decide +kernel
theorem dX4_goodWith_20 : decode cX4_goodWith 20 = .ok (.istore_n 2, 1) := by decide +kernel
theorem dX4_goodWith_21 : decode cX4_goodWith 21 = .ok (.aload_n 0, 1) := by decide +kernel
theorem dX4_goodWith_22 : decode cX4_goodWith 22 = .ok (.getfield 9, 3) := by decide +kernel
theorem dX4_goodWith_25 : decode cX4_goodWith 25 = .ok (.iconst 5, 1) := by decide +kernel
theorem dX4_goodWith_26 : decode cX4_goodWith 26 = .ok (.if_icmp .eq 11, 3) := by decide +kernel
theorem dX4_goodWith_29 : decode cX4_goodWith 29 = .ok (.aload_n 1, 1) := by decide +kernel
theorem dX4_goodWith_30 : decode cX4_goodWith 30 = .ok (.getfield 9, 3) := by decide +kernel
theorem dX4_goodWith_33 : decode cX4_goodWith 33 = .ok (.iconst 5, 1) := by decide +kernel
theorem dX4_goodWith_34 : decode cX4_goodWith 34 = .ok (.if_icmp .ne 5, 3) := by decide +kernel
theorem dX4_goodWith_37 : decode cX4_goodWith 37 = .ok (.iload_n 2, 1) := by decide +kernel
theorem dX4_goodWith_38 : decode cX4_goodWith 38 = .ok (.ireturn, 1) := by decide +kernel
theorem dX4_goodWith_39 : decode cX4_goodWith 39 = .ok (.iconst 0, 1) := by decide +kernel
theorem dX4_goodWith_40 : decode cX4_goodWith 40 = .ok (.iload_n 2, 1) := by decide +kernel
theorem dX4_goodWith_41 : decode cX4_goodWith 41 = .ok (.iconst 2, 1) := by decide +kernel
theorem dX4_goodWith_42 : decode cX4_goodWith 42 = .ok (.aload_n 0, 1) := by decide +kernel
theorem dX4_goodWith_43 : decode cX4_goodWith 43 = .ok (.getfield 15, 3) := by decide +kernel
theorem dX4_goodWith_46 : decode cX4_goodWith 46 = .ok (.aload_n 1, 1) := by decide +kernel
theorem dX4_goodWith_47 : decode cX4_goodWith 47 = .ok (.getfield 15, 3) := by decide +kernel
theorem dX4_goodWith_50 : decode cX4_goodWith 50 = .ok (.isub, 1) := by decide +kernel
theorem dX4_goodWith_51 : decode cX4_goodWith 51 = .ok (.invokestatic 54, 3) := by decide +kernel
theorem dX4_goodWith_54 : decode cX4_goodWith 54 = .ok (.imul, 1) := by decide +kernel
theorem dX4_goodWith_55 : decode cX4_goodWith 55 = .ok (.isub, 1) := by decide +kernel
theorem dX4_goodWith_56 : decode cX4_goodWith 56 = .ok (.invokestatic 30, 3) := by decide +kernel
theorem dX4_goodWith_59 : decode cX4_goodWith 59 = .ok (.ireturn, 1) := by decide +kernel
theorem dX4_tell_0 : decode cX4_tell 0 = .ok (.iload_n 1, 1) := by decide +kernel
theorem dX4_tell_1 : decode cX4_tell 1 = .ok (.tableswitch 69 0 5 #[39, 44, 49, 54, 59, 64], 39) := by decide +kernel
theorem dX4_tell_40 : decode cX4_tell 40 = .ok (.aload_n 0, 1) := by decide +kernel
theorem dX4_tell_41 : decode cX4_tell 41 = .ok (.getfield 9, 3) := by decide +kernel
theorem dX4_tell_44 : decode cX4_tell 44 = .ok (.ireturn, 1) := by decide +kernel
theorem dX4_tell_45 : decode cX4_tell 45 = .ok (.aload_n 0, 1) := by decide +kernel
theorem dX4_tell_46 : decode cX4_tell 46 = .ok (.getfield 15, 3) := by decide +kernel
theorem dX4_tell_49 : decode cX4_tell 49 = .ok (.ireturn, 1) := by decide +kernel
theorem dX4_tell_50 : decode cX4_tell 50 = .ok (.aload_n 0, 1) := by decide +kernel
theorem dX4_tell_51 : decode cX4_tell 51 = .ok (.getfield 18, 3) := by decide +kernel
theorem dX4_tell_54 : decode cX4_tell 54 = .ok (.ireturn, 1) := by decide +kernel
theorem dX4_tell_55 : decode cX4_tell 55 = .ok (.aload_n 0, 1) := by decide +kernel
theorem dX4_tell_56 : decode cX4_tell 56 = .ok (.getfield 21, 3) := by decide +kernel
theorem dX4_tell_59 : decode cX4_tell 59 = .ok (.ireturn, 1) := by decide +kernel
theorem dX4_tell_60 : decode cX4_tell 60 = .ok (.aload_n 0, 1) := by decide +kernel
theorem dX4_tell_61 : decode cX4_tell 61 = .ok (.getfield 24, 3) := by decide +kernel
theorem dX4_tell_64 : decode cX4_tell 64 = .ok (.ireturn, 1) := by decide +kernel
theorem dX4_tell_65 : decode cX4_tell 65 = .ok (.aload_n 0, 1) := by decide +kernel
theorem dX4_tell_66 : decode cX4_tell 66 = .ok (.invokevirtual 51, 3) := by decide +kernel
theorem dX4_tell_69 : decode cX4_tell 69 = .ok (.ireturn, 1) := by decide +kernel
theorem dX4_tell_70 : decode cX4_tell 70 = .ok (.aload_n 0, 1) := by decide +kernel
theorem dX4_tell_71 : decode cX4_tell 71 = .ok (.getfield 27, 3) := by decide +kernel
theorem dX4_tell_74 : decode cX4_tell 74 = .ok (.ireturn, 1) := by decide +kernel
