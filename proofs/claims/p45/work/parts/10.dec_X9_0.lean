theorem dX9_init_0 : decode cX9_init 0 = .ok (.aload_n 0, 1) := by decide +kernel
theorem dX9_init_1 : decode cX9_init 1 = .ok (.invokespecial 3, 3) := by decide +kernel
theorem dX9_init_4 : decode cX9_init 4 = .ok (.iconst 0, 1) := by decide +kernel
theorem dX9_init_5 : decode cX9_init 5 = .ok (.iload_n 1, 1) := by decide +kernel
theorem dX9_init_6 : decode cX9_init 6 = .ok (.invokestatic 9, 3) := by decide +kernel
theorem dX9_init_9 : decode cX9_init 9 = .ok (.istore 4, 2) := by decide +kernel
theorem dX9_init_11 : decode cX9_init 11 = .ok (.aload_n 0, 1) := by decide +kernel
theorem dX9_init_12 : decode cX9_init 12 = .ok (.iconst 0, 1) := by decide +kernel
theorem dX9_init_13 : decode cX9_init 13 = .ok (.iload_n 2, 1) := by decide +kernel
theorem dX9_init_14 : decode cX9_init 14 = .ok (.invokestatic 9, 3) := by decide +kernel
theorem dX9_init_17 : decode cX9_init 17 = .ok (.putfield 15, 3) := by decide +kernel
theorem dX9_init_20 : decode cX9_init 20 = .ok (.aload_n 0, 1) := by decide +kernel
theorem dX9_init_21 : decode cX9_init 21 = .ok (.iload_n 3, 1) := by decide +kernel
theorem dX9_init_22 : decode cX9_init 22 = .ok (.putfield 21, 3) := by decide +kernel
theorem dX9_init_25 : decode cX9_init 25 = .ok (.aload_n 0, 1) := by decide +kernel
theorem dX9_init_26 : decode cX9_init 26 = .ok (.iload 4, 2) := by decide +kernel
theorem dX9_init_28 : decode cX9_init 28 = .ok (.aload_n 0, 1) := by decide +kernel
theorem dX9_init_29 : decode cX9_init 29 = .ok (.getfield 15, 3) := by decide +kernel
theorem dX9_init_32 : decode cX9_init 32 = .ok (.multianewarray 24 2, 4) := by decide +kernel
theorem dX9_init_36 : decode cX9_init 36 = .ok (.putfield 26, 3) := by decide +kernel
theorem dX9_init_39 : decode cX9_init 39 = .ok (.aload_n 0, 1) := by decide +kernel
theorem dX9_init_40 : decode cX9_init 40 = .ok (.iload 4, 2) := by decide +kernel
theorem dX9_init_42 : decode cX9_init 42 = .ok (.newarray .int, 2) := by decide +kernel
theorem dX9_init_44 : decode cX9_init 44 = .ok (.putfield 29, 3) := by decide +kernel
theorem dX9_init_47 : decode cX9_init 47 = .ok (.iconst 0, 1) := by decide +kernel
theorem dX9_init_48 : decode cX9_init 48 = .ok (.istore 5, 2) := by decide +kernel
theorem dX9_init_50 : decode cX9_init 50 = .ok (.iload 5, 2) := by decide +kernel
theorem dX9_init_52 : decode cX9_init 52 = .ok (.iload 4, 2) := by decide +kernel
theorem dX9_init_54 : decode cX9_init 54 = .ok (.if_icmp .ge 17, 3) := by decide +kernel
theorem dX9_init_57 : decode cX9_init 57 = .ok (.aload_n 0, 1) := by decide +kernel
theorem dX9_init_58 : decode cX9_init 58 = .ok (.getfield 29, 3) := by decide +kernel
theorem dX9_init_61 : decode cX9_init 61 = .ok (.iload 5, 2) := by decide +kernel
theorem dX9_init_63 : decode cX9_init 63 = .ok (.iconst (-1), 1) := by decide +kernel
theorem dX9_init_64 : decode cX9_init 64 = .ok (.iastore, 1) := by decide +kernel
theorem dX9_init_65 : decode cX9_init 65 = .ok (.iinc 5 1, 3) := by decide +kernel
theorem dX9_init_68 : decode cX9_init 68 = .ok (.goto (-18), 3) := by decide +kernel
theorem dX9_init_71 : decode cX9_init 71 = .ok (.return_, 1) := by decide +kernel
theorem dX9_isNumber_0 : decode cX9_isNumber 0 = .ok (.iload_n 1, 1) := by decide +kernel
theorem dX9_isNumber_1 : decode cX9_isNumber 1 = .ok (.ifCond .lt 16, 3) := by decide +kernel
theorem dX9_isNumber_4 : decode cX9_isNumber 4 = .ok (.iload_n 1, 1) := by decide +kernel
theorem dX9_isNumber_5 : decode cX9_isNumber 5 = .ok (.aload_n 0, 1) := by decide +kernel
theorem dX9_isNumber_6 : decode cX9_isNumber 6 = .ok (.getfield 29, 3) := by decide +kernel
theorem dX9_isNumber_9 : decode cX9_isNumber 9 = .ok (.arraylength, 1) := by decide +kernel
theorem dX9_isNumber_10 : decode cX9_isNumber 10 = .ok (.if_icmp .ge 7, 3) := by decide +kernel
theorem dX9_isNumber_13 : decode cX9_isNumber 13 = .ok (.iconst 1, 1) := by decide +kernel
theorem dX9_isNumber_14 : decode cX9_isNumber 14 = .ok (.goto 4, 3) := by decide +kernel
theorem dX9_isNumber_17 : decode cX9_isNumber 17 = .ok (.iconst 0, 1) := by decide +kernel
theorem dX9_isNumber_18 : decode cX9_isNumber 18 = .ok (.ireturn, 1) := by decide +kernel
theorem dX9_sizeOf_0 : decode cX9_sizeOf 0 = .ok (.aload_n 0, 1) := by decide +kernel
theorem dX9_sizeOf_1 : decode cX9_sizeOf 1 = .ok (.iload_n 1, 1) := by decide +kernel
theorem dX9_sizeOf_2 : decode cX9_sizeOf 2 = .ok (.invokevirtual 33, 3) := by decide +kernel
theorem dX9_sizeOf_5 : decode cX9_sizeOf 5 = .ok (.ifCond .eq 12, 3) := by decide +kernel
theorem dX9_sizeOf_8 : decode cX9_sizeOf 8 = .ok (.aload_n 0, 1) := by decide +kernel
theorem dX9_sizeOf_9 : decode cX9_sizeOf 9 = .ok (.getfield 29, 3) := by decide +kernel
theorem dX9_sizeOf_12 : decode cX9_sizeOf 12 = .ok (.iload_n 1, 1) := by decide +kernel
theorem dX9_sizeOf_13 : decode cX9_sizeOf 13 = .ok (.iaload, 1) := by decide +kernel
theorem dX9_sizeOf_14 : decode cX9_sizeOf 14 = .ok (.goto 4, 3) := by decide +kernel
theorem dX9_sizeOf_17 : decode cX9_sizeOf 17 = .ok (.iconst (-1), 1) := by decide +kernel
theorem dX9_sizeOf_18 : decode cX9_sizeOf 18 = .ok (.ireturn, 1) := by decide +kernel
theorem dX9_isThere_0 : decode cX9_isThere 0 = .ok (.aload_n 0, 1) := by decide +kernel
theorem dX9_isThere_1 : decode cX9_isThere 1 = .ok (.iload_n 1, 1) := by decide +kernel
theorem dX9_isThere_2 : decode cX9_isThere 2 = .ok (.invokevirtual 37, 3) := by decide +kernel
theorem dX9_isThere_5 : decode cX9_isThere 5 = .ok (.iconst (-1), 1) := by decide +kernel
theorem dX9_isThere_6 : decode cX9_isThere 6 = .ok (.if_icmp .eq 7, 3) := by decide +kernel
theorem dX9_isThere_9 : decode cX9_isThere 9 = .ok (.iconst 1, 1) := by decide +kernel
theorem dX9_isThere_10 : decode cX9_isThere 10 = .ok (.goto 4, 3) := by decide +kernel
theorem dX9_isThere_13 : decode cX9_isThere 13 = .ok (.iconst 0, 1) := by decide +kernel
theorem dX9_isThere_14 : decode cX9_isThere 14 = .ok (.ireturn, 1) := by decide +kernel
theorem dX9_holds_0 : decode cX9_holds 0 = .ok (.iload_n 2, 1) := by decide +kernel
theorem dX9_holds_1 : decode cX9_holds 1 = .ok (.ifCond .lt 16, 3) := by decide +kernel
theorem dX9_holds_4 : decode cX9_holds 4 = .ok (.iload_n 2, 1) := by decide +kernel
theorem dX9_holds_5 : decode cX9_holds 5 = .ok (.aload_n 0, 1) := by decide +kernel
theorem dX9_holds_6 : decode cX9_holds 6 = .ok (.iload_n 1, 1) := by decide +kernel
theorem dX9_holds_7 : decode cX9_holds 7 = .ok (.invokevirtual 37, 3) := by decide +kernel
theorem dX9_holds_10 : decode cX9_holds 10 = .ok (.if_icmp .ge 7, 3) := by decide +kernel
theorem dX9_holds_13 : decode cX9_holds 13 = .ok (.iconst 1, 1) := by decide +kernel
theorem dX9_holds_14 : decode cX9_holds 14 = .ok (.goto 4, 3) := by decide +kernel
theorem dX9_holds_17 : decode cX9_holds 17 = .ok (.iconst 0, 1) := by decide +kernel
theorem dX9_holds_18 : decode cX9_holds 18 = .ok (.ireturn, 1) := by decide +kernel
theorem dX9_reaches_0 : decode cX9_reaches 0 = .ok (.aload_n 0, 1) := by decide +kernel
theorem dX9_reaches_1 : decode cX9_reaches 1 = .ok (.iload_n 1, 1) := by decide +kernel
theorem dX9_reaches_2 : decode cX9_reaches 2 = .ok (.invokevirtual 37, 3) := by decide +kernel
theorem dX9_reaches_5 : decode cX9_reaches 5 = .ok (.istore 4, 2) := by decide +kernel
theorem dX9_reaches_7 : decode cX9_reaches 7 = .ok (.iload_n 2, 1) := by decide +kernel
theorem dX9_reaches_8 : decode cX9_reaches 8 = .ok (.ifCond .lt 25, 3) := by decide +kernel
theorem dX9_reaches_11 : decode cX9_reaches 11 = .ok (.iload_n 2, 1) := by decide +kernel
theorem dX9_reaches_12 : decode cX9_reaches 12 = .ok (.iload 4, 2) := by decide +kernel
theorem dX9_reaches_14 : decode cX9_reaches 14 = .ok (.if_icmp .gt 19, 3) := by decide +kernel
theorem dX9_reaches_17 : decode cX9_reaches 17 = .ok (.iload_n 3, 1) := by decide +kernel
theorem dX9_reaches_18 : decode cX9_reaches 18 = .ok (.ifCond .lt 15, 3) := by decide +kernel
theorem dX9_reaches_21 : decode cX9_reaches 21 = .ok (.iload_n 3, 1) := by decide +kernel
theorem dX9_reaches_22 : decode cX9_reaches 22 = .ok (.iload 4, 2) := by decide +kernel
theorem dX9_reaches_24 : decode cX9_reaches 24 = .ok (.iload_n 2, 1) := by decide +kernel
theorem dX9_reaches_25 : decode cX9_reaches 25 = .ok (.isub, 1) := by decide +kernel
theorem dX9_reaches_26 : decode cX9_reaches 26 = .ok (.if_icmp .gt 7, 3) := by decide +kernel
theorem dX9_reaches_29 : decode cX9_reaches 29 = .ok (.iconst 1, 1) := by decide +kernel
theorem dX9_reaches_30 : decode cX9_reaches 30 = .ok (.goto 4, 3) := by decide +kernel
theorem dX9_reaches_33 : decode cX9_reaches 33 = .ok (.iconst 0, 1) := by decide +kernel
theorem dX9_reaches_34 : decode cX9_reaches 34 = .ok (.ireturn, 1) := by decide +kernel
theorem dX9_begin_0 : decode cX9_begin 0 = .ok (.aload_n 0, 1) := by decide +kernel
theorem dX9_begin_1 : decode cX9_begin 1 = .ok (.iload_n 1, 1) := by decide +kernel
theorem dX9_begin_2 : decode cX9_begin 2 = .ok (.invokevirtual 33, 3) := by decide +kernel
theorem dX9_begin_5 : decode cX9_begin 5 = .ok (.ifCond .eq 15, 3) := by decide +kernel
theorem dX9_begin_8 : decode cX9_begin 8 = .ok (.iload_n 2, 1) := by decide +kernel
theorem dX9_begin_9 : decode cX9_begin 9 = .ok (.ifCond .lt 11, 3) := by decide +kernel
theorem dX9_begin_12 : decode cX9_begin 12 = .ok (.iload_n 2, 1) := by decide +kernel
theorem dX9_begin_13 : decode cX9_begin 13 = .ok (.aload_n 0, 1) := by decide +kernel
theorem dX9_begin_14 : decode cX9_begin 14 = .ok (.getfield 15, 3) := by decide +kernel
theorem dX9_begin_17 : decode cX9_begin 17 = .ok (.if_icmp .le 4, 3) := by decide +kernel
theorem dX9_begin_20 : decode cX9_begin 20 = .ok (.return_, 1) := by decide +kernel
theorem dX9_begin_21 : decode cX9_begin 21 = .ok (.aload_n 0, 1) := by decide +kernel
theorem dX9_begin_22 : decode cX9_begin 22 = .ok (.getfield 29, 3) := by decide +kernel
theorem dX9_begin_25 : decode cX9_begin 25 = .ok (.iload_n 1, 1) := by decide +kernel
theorem dX9_begin_26 : decode cX9_begin 26 = .ok (.iload_n 2, 1) := by decide +kernel
theorem dX9_begin_27 : decode cX9_begin 27 = .ok (.iastore, 1) := by decide +kernel
theorem dX9_begin_28 : decode cX9_begin 28 = .ok (.iconst 0, 1) := by decide +kernel
theorem dX9_begin_29 : decode cX9_begin 29 = .ok (.istore_n 3, 1) := by decide +kernel
theorem dX9_begin_30 : decode cX9_begin 30 = .ok (.iload_n 3, 1) := by decide +kernel
theorem dX9_begin_31 : decode cX9_begin 31 = .ok (.iload_n 2, 1) := by decide +kernel
theorem dX9_begin_32 : decode cX9_begin 32 = .ok (.if_icmp .ge 21, 3) := by decide +kernel
theorem dX9_begin_35 : decode cX9_begin 35 = .ok (.aload_n 0, 1) := by decide +kernel
theorem dX9_begin_36 : decode cX9_begin 36 = .ok (.getfield 26, 3) := by decide +kernel
theorem dX9_begin_39 : decode cX9_begin 39 = .ok (.iload_n 1, 1) := by decide +kernel
theorem dX9_begin_40 : decode cX9_begin 40 = .ok (.aaload, 1) := by decide +kernel
theorem dX9_begin_41 : decode cX9_begin 41 = .ok (.iload_n 3, 1) := by decide +kernel
theorem dX9_begin_42 : decode cX9_begin 42 = .ok (.aload_n 0, 1) := by decide +kernel
theorem dX9_begin_43 : decode cX9_begin 43 = .ok (.getfield 21, 3) := by decide +kernel
theorem dX9_begin_46 : decode cX9_begin 46 = .ok (.iastore, 1) := by decide +kernel
theorem dX9_begin_47 : decode cX9_begin 47 = .ok (.iinc 3 1, 3) := by decide +kernel
theorem dX9_begin_50 : decode cX9_begin 50 = .ok (.goto (-20), 3) := by decide +kernel
theorem dX9_begin_53 : decode cX9_begin 53 = .ok (.return_, 1) := by decide +kernel
theorem dX9_drop_0 : decode cX9_drop 0 = .ok (.aload_n 0, 1) := by decide +kernel
theorem dX9_drop_1 : decode cX9_drop 1 = .ok (.iload_n 1, 1) := by decide +kernel
theorem dX9_drop_2 : decode cX9_drop 2 = .ok (.invokevirtual 33, 3) := by decide +kernel
theorem dX9_drop_5 : decode cX9_drop 5 = .ok (.ifCond .eq 10, 3) := by decide +kernel
theorem dX9_drop_8 : decode cX9_drop 8 = .ok (.aload_n 0, 1) := by decide +kernel
theorem dX9_drop_9 : decode cX9_drop 9 = .ok (.getfield 29, 3) := by decide +kernel
theorem dX9_drop_12 : decode cX9_drop 12 = .ok (.iload_n 1, 1) := by decide +kernel
theorem dX9_drop_13 : decode cX9_drop 13 = .ok (.iconst (-1), 1) := by decide +kernel
theorem dX9_drop_14 : decode cX9_drop 14 = .ok (.iastore, 1) := by decide +kernel
theorem dX9_drop_15 : decode cX9_drop 15 = .ok (.return_, 1) := by decide +kernel
theorem dX9_read_0 : decode cX9_read 0 = .ok (.aload_n 0, 1) := by decide +kernel
theorem dX9_read_1 : decode cX9_read 1 = .ok (.iload_n 1, 1) := by decide +kernel
theorem dX9_read_2 : decode cX9_read 2 = .ok (.iload_n 2, 1) := by decide +kernel
theorem dX9_read_3 : decode cX9_read 3 = .ok (.invokevirtual 41, 3) := by decide +kernel
theorem dX9_read_6 : decode cX9_read 6 = .ok (.ifCond .eq 14, 3) := by decide +kernel
theorem dX9_read_9 : decode cX9_read 9 = .ok (.aload_n 0, 1) := by decide +kernel
theorem dX9_read_10 : decode cX9_read 10 = .ok (.getfield 26, 3) := by decide +kernel
theorem dX9_read_13 : decode cX9_read 13 = .ok (.iload_n 1, 1) := by decide +kernel
theorem dX9_read_14 : decode cX9_read 14 = .ok (.aaload, 1) := by decide +kernel
theorem dX9_read_15 : decode cX9_read 15 = .ok (.iload_n 2, 1) := by decide +kernel
theorem dX9_read_16 : decode cX9_read 16 = .ok (.iaload, 1) := by decide +kernel
theorem dX9_read_17 : decode cX9_read 17 = .ok (.goto 4, 3) := by decide +kernel
theorem dX9_read_20 : decode cX9_read 20 = .ok (.iconst 0, 1) := by decide +kernel
theorem dX9_read_21 : decode cX9_read 21 = .ok (.ireturn, 1) := by decide +kernel
theorem dX9_write_0 : decode cX9_write 0 = .ok (.aload_n 0, 1) := by decide +kernel
theorem dX9_write_1 : decode cX9_write 1 = .ok (.iload_n 1, 1) := by decide +kernel
theorem dX9_write_2 : decode cX9_write 2 = .ok (.iload_n 2, 1) := by decide +kernel
theorem dX9_write_3 : decode cX9_write 3 = .ok (.invokevirtual 41, 3) := by decide +kernel
theorem dX9_write_6 : decode cX9_write 6 = .ok (.ifCond .eq 12, 3) := by decide +kernel
theorem dX9_write_9 : decode cX9_write 9 = .ok (.aload_n 0, 1) := by decide +kernel
theorem dX9_write_10 : decode cX9_write 10 = .ok (.getfield 26, 3) := by decide +kernel
theorem dX9_write_13 : decode cX9_write 13 = .ok (.iload_n 1, 1) := by decide +kernel
theorem dX9_write_14 : decode cX9_write 14 = .ok (.aaload, 1) := by decide +kernel
theorem dX9_write_15 : decode cX9_write 15 = .ok (.iload_n 2, 1) := by decide +kernel
theorem dX9_write_16 : decode cX9_write 16 = .ok (.iload_n 3, 1) := by decide +kernel
theorem dX9_write_17 : decode cX9_write 17 = .ok (.iastore, 1) := by decide +kernel
theorem dX9_write_18 : decode cX9_write 18 = .ok (.return_, 1) := by decide +kernel
theorem dX9_move_0 : decode cX9_move 0 = .ok (.aload_n 0, 1) := by decide +kernel
theorem dX9_move_1 : decode cX9_move 1 = .ok (.iload_n 1, 1) := by decide +kernel
theorem dX9_move_2 : decode cX9_move 2 = .ok (.iload_n 2, 1) := by decide +kernel
theorem dX9_move_3 : decode cX9_move 3 = .ok (.iload 5, 2) := by decide +kernel
theorem dX9_move_5 : decode cX9_move 5 = .ok (.invokevirtual 45, 3) := by decide +kernel
theorem dX9_move_8 : decode cX9_move 8 = .ok (.ifCond .eq 35, 3) := by decide +kernel
theorem dX9_move_11 : decode cX9_move 11 = .ok (.aload_n 0, 1) := by decide +kernel
theorem dX9_move_12 : decode cX9_move 12 = .ok (.iload_n 3, 1) := by decide +kernel
theorem dX9_move_13 : decode cX9_move 13 = .ok (.iload 4, 2) := by decide +kernel
theorem dX9_move_15 : decode cX9_move 15 = .ok (.iload 5, 2) := by decide +kernel
theorem dX9_move_17 : decode cX9_move 17 = .ok (.invokevirtual 45, 3) := by decide +kernel
theorem dX9_move_20 : decode cX9_move 20 = .ok (.ifCond .eq 23, 3) := by decide +kernel
theorem dX9_move_23 : decode cX9_move 23 = .ok (.aload_n 0, 1) := by decide +kernel
theorem dX9_move_24 : decode cX9_move 24 = .ok (.getfield 26, 3) := by decide +kernel
theorem dX9_move_27 : decode cX9_move 27 = .ok (.iload_n 1, 1) := by decide +kernel
theorem dX9_move_28 : decode cX9_move 28 = .ok (.aaload, 1) := by decide +kernel
theorem dX9_move_29 : decode cX9_move 29 = .ok (.iload_n 2, 1) := by decide +kernel
theorem dX9_move_30 : decode cX9_move 30 = .ok (.aload_n 0, 1) := by decide +kernel
theorem dX9_move_31 : decode cX9_move 31 = .ok (.getfield 26, 3) := by decide +kernel
theorem dX9_move_34 : decode cX9_move 34 = .ok (.iload_n 3, 1) := by decide +kernel
theorem dX9_move_35 : decode cX9_move 35 = .ok (.aaload, 1) := by decide +kernel
theorem dX9_move_36 : decode cX9_move 36 = .ok (.iload 4, 2) := by decide +kernel
theorem dX9_move_38 : decode cX9_move 38 = .ok (.iload 5, 2) := by decide +kernel
theorem dX9_move_40 : decode cX9_move 40 = .ok (.invokestatic 49, 3) := by decide +kernel
theorem dX9_move_43 : decode cX9_move 43 = .ok (.return_, 1) := by decide +kernel
theorem dX9_total_0 : decode cX9_total 0 = .ok (.lconst 0, 1) := by decide +kernel
theorem dX9_total_1 : decode cX9_total 1 = .ok (.lstore_n 2, 1) := by decide +kernel
theorem dX9_total_2 : decode cX9_total 2 = .ok (.iconst 0, 1) := by decide +kernel
theorem dX9_total_3 : decode cX9_total 3 = .ok (.istore 4, 2) := by decide +kernel
theorem dX9_total_5 : decode cX9_total 5 = .ok (.iload 4, 2) := by decide +kernel
theorem dX9_total_7 : decode cX9_total 7 = .ok (.aload_n 0, 1) := by decide +kernel
theorem dX9_total_8 : decode cX9_total 8 = .ok (.iload_n 1, 1) := by decide +kernel
theorem dX9_total_9 : decode cX9_total 9 = .ok (.invokevirtual 37, 3) := by decide +kernel
theorem dX9_total_12 : decode cX9_total 12 = .ok (.if_icmp .ge 20, 3) := by decide +kernel
theorem dX9_total_15 : decode cX9_total 15 = .ok (.lload_n 2, 1) := by decide +kernel
theorem dX9_total_16 : decode cX9_total 16 = .ok (.aload_n 0, 1) := by decide +kernel
theorem dX9_total_17 : decode cX9_total 17 = .ok (.iload_n 1, 1) := by decide +kernel
theorem dX9_total_18 : decode cX9_total 18 = .ok (.iload 4, 2) := by decide +kernel
theorem dX9_total_20 : decode cX9_total 20 = .ok (.invokevirtual 55, 3) := by decide +kernel
theorem dX9_total_23 : decode cX9_total 23 = .ok (.i2l, 1) := by decide +kernel
theorem dX9_total_24 : decode cX9_total 24 = .ok (.ladd, 1) := by decide +kernel
theorem dX9_total_25 : decode cX9_total 25 = .ok (.lstore_n 2, 1) := by decide +kernel
theorem dX9_total_26 : decode cX9_total 26 = .ok (.iinc 4 1, 3) := by decide +kernel
theorem dX9_total_29 : decode cX9_total 29 = .ok (.goto (-24), 3) := by decide +kernel
theorem dX9_total_32 : decode cX9_total 32 = .ok (.lload_n 2, 1) := by decide +kernel
theorem dX9_total_33 : decode cX9_total 33 = .ok (.lreturn, 1) := by decide +kernel
theorem dX9_howManyThere_0 : decode cX9_howManyThere 0 = .ok (.iconst 0, 1) := by decide +kernel
theorem dX9_howManyThere_1 : decode cX9_howManyThere 1 = .ok (.istore_n 1, 1) := by decide +kernel
theorem dX9_howManyThere_2 : decode cX9_howManyThere 2 = .ok (.iconst 0, 1) := by decide +kernel
theorem dX9_howManyThere_3 : decode cX9_howManyThere 3 = .ok (.istore_n 2, 1) := by decide +kernel
theorem dX9_howManyThere_4 : decode cX9_howManyThere 4 = .ok (.iload_n 2, 1) := by decide +kernel
theorem dX9_howManyThere_5 : decode cX9_howManyThere 5 = .ok (.aload_n 0, 1) := by decide +kernel
theorem dX9_howManyThere_6 : decode cX9_howManyThere 6 = .ok (.getfield 29, 3) := by decide +kernel
theorem dX9_howManyThere_9 : decode cX9_howManyThere 9 = .ok (.arraylength, 1) := by decide +kernel
theorem dX9_howManyThere_10 : decode cX9_howManyThere 10 = .ok (.if_icmp .ge 20, 3) := by decide +kernel
theorem dX9_howManyThere_13 : decode cX9_howManyThere 13 = .ok (.aload_n 0, 1) := by decide +kernel
theorem dX9_howManyThere_14 : decode cX9_howManyThere 14 = .ok (.iload_n 2, 1) := by decide +kernel
theorem dX9_howManyThere_15 : decode cX9_howManyThere 15 = .ok (.invokevirtual 58, 3) := by decide +kernel
theorem dX9_howManyThere_18 : decode cX9_howManyThere 18 = .ok (.ifCond .eq 6, 3) := by decide +kernel
theorem dX9_howManyThere_21 : decode cX9_howManyThere 21 = .ok (.iinc 1 1, 3) := by decide +kernel
theorem dX9_howManyThere_24 : decode cX9_howManyThere 24 = .ok (.iinc 2 1, 3) := by decide +kernel
theorem dX9_howManyThere_27 : decode cX9_howManyThere 27 = .ok (.goto (-23), 3) := by decide +kernel
theorem dX9_howManyThere_30 : decode cX9_howManyThere 30 = .ok (.iload_n 1, 1) := by decide +kernel
theorem dX9_howManyThere_31 : decode cX9_howManyThere 31 = .ok (.ireturn, 1) := by decide +kernel
theorem dX9_digestOn_0 : decode cX9_digestOn 0 = .ok (.iconst 0, 1) := by decide +kernel
theorem dX9_digestOn_1 : decode cX9_digestOn 1 = .ok (.istore_n 3, 1) := by decide +kernel
theorem dX9_digestOn_2 : decode cX9_digestOn 2 = .ok (.iload_n 3, 1) := by decide +kernel
theorem dX9_digestOn_3 : decode cX9_digestOn 3 = .ok (.aload_n 0, 1) := by decide +kernel
theorem dX9_digestOn_4 : decode cX9_digestOn 4 = .ok (.getfield 29, 3) := by decide +kernel
theorem dX9_digestOn_7 : decode cX9_digestOn 7 = .ok (.arraylength, 1) := by decide +kernel
theorem dX9_digestOn_8 : decode cX9_digestOn 8 = .ok (.if_icmp .ge 58, 3) := by decide +kernel
theorem dX9_digestOn_11 : decode cX9_digestOn 11 = .ok (.ldc2_w 61, 3) := by decide +kernel
theorem dX9_digestOn_14 : decode cX9_digestOn 14 = .ok (.lload_n 1, 1) := by decide +kernel
theorem dX9_digestOn_15 : decode cX9_digestOn 15 = .ok (.lmul, 1) := by decide +kernel
theorem dX9_digestOn_16 : decode cX9_digestOn 16 = .ok (.aload_n 0, 1) := by decide +kernel
theorem dX9_digestOn_17 : decode cX9_digestOn 17 = .ok (.getfield 29, 3) := by decide +kernel
theorem dX9_digestOn_20 : decode cX9_digestOn 20 = .ok (.iload_n 3, 1) := by decide +kernel
theorem dX9_digestOn_21 : decode cX9_digestOn 21 = .ok (.iaload, 1) := by decide +kernel
theorem dX9_digestOn_22 : decode cX9_digestOn 22 = .ok (.i2l, 1) := by decide +kernel
theorem dX9_digestOn_23 : decode cX9_digestOn 23 = .ok (.ladd, 1) := by decide +kernel
theorem dX9_digestOn_24 : decode cX9_digestOn 24 = .ok (.lstore_n 1, 1) := by decide +kernel
theorem dX9_digestOn_25 : decode cX9_digestOn 25 = .ok (.iconst 0, 1) := by decide +kernel
theorem dX9_digestOn_26 : decode cX9_digestOn 26 = .ok (.istore 4, 2) := by decide +kernel
theorem dX9_digestOn_28 : decode cX9_digestOn 28 = .ok (.iload 4, 2) := by decide +kernel
theorem dX9_digestOn_30 : decode cX9_digestOn 30 = .ok (.aload_n 0, 1) := by decide +kernel
theorem dX9_digestOn_31 : decode cX9_digestOn 31 = .ok (.getfield 29, 3) := by decide +kernel
theorem dX9_digestOn_34 : decode cX9_digestOn 34 = .ok (.iload_n 3, 1) := by decide +kernel
theorem dX9_digestOn_35 : decode cX9_digestOn 35 = .ok (.iaload, 1) := by decide +kernel
theorem dX9_digestOn_36 : decode cX9_digestOn 36 = .ok (.if_icmp .ge 24, 3) := by decide +kernel
theorem dX9_digestOn_39 : decode cX9_digestOn 39 = .ok (.ldc2_w 61, 3) := by decide +kernel
theorem dX9_digestOn_42 : decode cX9_digestOn 42 = .ok (.lload_n 1, 1) := by decide +kernel
theorem dX9_digestOn_43 : decode cX9_digestOn 43 = .ok (.lmul, 1) := by decide +kernel
theorem dX9_digestOn_44 : decode cX9_digestOn 44 = .ok (.aload_n 0, 1) := by decide +kernel
theorem dX9_digestOn_45 : decode cX9_digestOn 45 = .ok (.iload_n 3, 1) := by decide +kernel
theorem dX9_digestOn_46 : decode cX9_digestOn 46 = .ok (.iload 4, 2) := by decide +kernel
theorem dX9_digestOn_48 : decode cX9_digestOn 48 = .ok (.invokevirtual 55, 3) := by decide +kernel
theorem dX9_digestOn_51 : decode cX9_digestOn 51 = .ok (.i2l, 1) := by decide +kernel
theorem dX9_digestOn_52 : decode cX9_digestOn 52 = .ok (.ladd, 1) := by decide +kernel
theorem dX9_digestOn_53 : decode cX9_digestOn 53 = .ok (.lstore_n 1, 1) := by decide +kernel
theorem dX9_digestOn_54 : decode cX9_digestOn 54 = .ok (.iinc 4 1, 3) := by decide +kernel
theorem dX9_digestOn_57 : decode cX9_digestOn 57 = .ok (.goto (-29), 3) := by decide +kernel
theorem dX9_digestOn_60 : decode cX9_digestOn 60 = .ok (.iinc 3 1, 3) := by decide +kernel
theorem dX9_digestOn_63 : decode cX9_digestOn 63 = .ok (.goto (-61), 3) := by decide +kernel
theorem dX9_digestOn_66 : decode cX9_digestOn 66 = .ok (.lload_n 1, 1) := by decide +kernel
theorem dX9_digestOn_67 : decode cX9_digestOn 67 = .ok (.lreturn, 1) := by decide +kernel
