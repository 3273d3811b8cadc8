theorem dX0_init_0 : decode cX0_init 0 = .ok (.aload_n 0, 1) := by decide +kernel
theorem dX0_init_1 : decode cX0_init 1 = .ok (.invokespecial 3, 3) := by decide +kernel
theorem dX0_init_4 : decode cX0_init 4 = .ok (.aload_n 0, 1) := by decide +kernel
theorem dX0_init_5 : decode cX0_init 5 = .ok (.bipush 24, 2) := by decide +kernel
theorem dX0_init_7 : decode cX0_init 7 = .ok (.newarray .int, 2) := by decide +kernel
theorem dX0_init_9 : decode cX0_init 9 = .ok (.putfield 9, 3) := by decide +kernel
theorem dX0_init_12 : decode cX0_init 12 = .ok (.aload_n 0, 1) := by decide +kernel
theorem dX0_init_13 : decode cX0_init 13 = .ok (.bipush 24, 2) := by decide +kernel
theorem dX0_init_15 : decode cX0_init 15 = .ok (.newarray .boolean, 2) := by decide +kernel
theorem dX0_init_17 : decode cX0_init 17 = .ok (.putfield 15, 3) := by decide +kernel
theorem dX0_init_20 : decode cX0_init 20 = .ok (.aload_n 0, 1) := by decide +kernel
theorem dX0_init_21 : decode cX0_init 21 = .ok (.bipush 24, 2) := by decide +kernel
theorem dX0_init_23 : decode cX0_init 23 = .ok (.newarray .int, 2) := by decide +kernel
theorem dX0_init_25 : decode cX0_init 25 = .ok (.putfield 19, 3) := by decide +kernel
theorem dX0_init_28 : decode cX0_init 28 = .ok (.aload_n 0, 1) := by decide +kernel
theorem dX0_init_29 : decode cX0_init 29 = .ok (.iconst 4, 1) := by decide +kernel
theorem dX0_init_30 : decode cX0_init 30 = .ok (.anewarray 22, 3) := by decide +kernel
theorem dX0_init_33 : decode cX0_init 33 = .ok (.putfield 24, 3) := by decide +kernel
theorem dX0_init_36 : decode cX0_init 36 = .ok (.aload_n 0, 1) := by decide +kernel
theorem dX0_init_37 : decode cX0_init 37 = .ok (.bipush 120, 2) := by decide +kernel
theorem dX0_init_39 : decode cX0_init 39 = .ok (.newarray .int, 2) := by decide +kernel
theorem dX0_init_41 : decode cX0_init 41 = .ok (.putfield 28, 3) := by decide +kernel
theorem dX0_init_44 : decode cX0_init 44 = .ok (.aload_n 0, 1) := by decide +kernel
theorem dX0_init_45 : decode cX0_init 45 = .ok (.bipush 120, 2) := by decide +kernel
theorem dX0_init_47 : decode cX0_init 47 = .ok (.newarray .int, 2) := by decide +kernel
theorem dX0_init_49 : decode cX0_init 49 = .ok (.putfield 31, 3) := by decide +kernel
theorem dX0_init_52 : decode cX0_init 52 = .ok (.iconst 0, 1) := by decide +kernel
theorem dX0_init_53 : decode cX0_init 53 = .ok (.istore_n 1, 1) := by decide +kernel
theorem dX0_init_54 : decode cX0_init 54 = .ok (.iload_n 1, 1) := by decide +kernel
theorem dX0_init_55 : decode cX0_init 55 = .ok (.aload_n 0, 1) := by decide +kernel
theorem dX0_init_56 : decode cX0_init 56 = .ok (.getfield 24, 3) := by decide +kernel
theorem dX0_init_59 : decode cX0_init 59 = .ok (.arraylength, 1) := by decide +kernel
theorem dX0_init_60 : decode cX0_init 60 = .ok (.if_icmp .ge 22, 3) := by decide +kernel
theorem dX0_init_63 : decode cX0_init 63 = .ok (.aload_n 0, 1) := by decide +kernel
theorem dX0_init_64 : decode cX0_init 64 = .ok (.getfield 24, 3) := by decide +kernel
theorem dX0_init_67 : decode cX0_init 67 = .ok (.iload_n 1, 1) := by decide +kernel
theorem dX0_init_68 : decode cX0_init 68 = .ok (.new 22, 3) := by decide +kernel
theorem dX0_init_71 : decode cX0_init 71 = .ok (.dup, 1) := by decide +kernel
theorem dX0_init_72 : decode cX0_init 72 = .ok (.invokespecial 34, 3) := by decide +kernel
theorem dX0_init_75 : decode cX0_init 75 = .ok (.aastore, 1) := by decide +kernel
theorem dX0_init_76 : decode cX0_init 76 = .ok (.iinc 1 1, 3) := by decide +kernel
theorem dX0_init_79 : decode cX0_init 79 = .ok (.goto (-25), 3) := by decide +kernel
theorem dX0_init_82 : decode cX0_init 82 = .ok (.return_, 1) := by decide +kernel
theorem dX0_hasStatement_0 : decode cX0_hasStatement 0 = .ok (.iload_n 1, 1) := by decide +kernel
theorem dX0_hasStatement_1 : decode cX0_hasStatement 1 = .ok (.ifCond .lt 20, 3) := by decide +kernel
theorem dX0_hasStatement_4 : decode cX0_hasStatement 4 = .ok (.iload_n 1, 1) := by decide +kernel
theorem dX0_hasStatement_5 : decode cX0_hasStatement 5 = .ok (.aload_n 0, 1) := by decide +kernel
theorem dX0_hasStatement_6 : decode cX0_hasStatement 6 = .ok (.getfield 35, 3) := by decide +kernel
theorem dX0_hasStatement_9 : decode cX0_hasStatement 9 = .ok (.if_icmp .ge 12, 3) := by decide +kernel
theorem dX0_hasStatement_12 : decode cX0_hasStatement 12 = .ok (.iload_n 1, 1) := by decide +kernel
theorem dX0_hasStatement_13 : decode cX0_hasStatement 13 = .ok (.iconst 4, 1) := by decide +kernel
theorem dX0_hasStatement_14 : decode cX0_hasStatement 14 = .ok (.if_icmp .ge 7, 3) := by decide +kernel
theorem dX0_hasStatement_17 : decode cX0_hasStatement 17 = .ok (.iconst 1, 1) := by decide +kernel
theorem dX0_hasStatement_18 : decode cX0_hasStatement 18 = .ok (.goto 4, 3) := by decide +kernel
theorem dX0_hasStatement_21 : decode cX0_hasStatement 21 = .ok (.iconst 0, 1) := by decide +kernel
theorem dX0_hasStatement_22 : decode cX0_hasStatement 22 = .ok (.ireturn, 1) := by decide +kernel
theorem dX0_hasReference_0 : decode cX0_hasReference 0 = .ok (.iload_n 1, 1) := by decide +kernel
theorem dX0_hasReference_1 : decode cX0_hasReference 1 = .ok (.ifCond .lt 21, 3) := by decide +kernel
theorem dX0_hasReference_4 : decode cX0_hasReference 4 = .ok (.iload_n 1, 1) := by decide +kernel
theorem dX0_hasReference_5 : decode cX0_hasReference 5 = .ok (.aload_n 0, 1) := by decide +kernel
theorem dX0_hasReference_6 : decode cX0_hasReference 6 = .ok (.getfield 39, 3) := by decide +kernel
theorem dX0_hasReference_9 : decode cX0_hasReference 9 = .ok (.if_icmp .ge 13, 3) := by decide +kernel
theorem dX0_hasReference_12 : decode cX0_hasReference 12 = .ok (.iload_n 1, 1) := by decide +kernel
theorem dX0_hasReference_13 : decode cX0_hasReference 13 = .ok (.bipush 24, 2) := by decide +kernel
theorem dX0_hasReference_15 : decode cX0_hasReference 15 = .ok (.if_icmp .ge 7, 3) := by decide +kernel
theorem dX0_hasReference_18 : decode cX0_hasReference 18 = .ok (.iconst 1, 1) := by decide +kernel
theorem dX0_hasReference_19 : decode cX0_hasReference 19 = .ok (.goto 4, 3) := by decide +kernel
theorem dX0_hasReference_22 : decode cX0_hasReference 22 = .ok (.iconst 0, 1) := by decide +kernel
theorem dX0_hasReference_23 : decode cX0_hasReference 23 = .ok (.ireturn, 1) := by decide +kernel
theorem dX0_open_0 : decode cX0_open 0 = .ok (.aload_n 0, 1) := by decide +kernel
theorem dX0_open_1 : decode cX0_open 1 = .ok (.getfield 24, 3) := by decide +kernel
theorem dX0_open_4 : decode cX0_open 4 = .ok (.aload_n 0, 1) := by decide +kernel
theorem dX0_open_5 : decode cX0_open 5 = .ok (.getfield 35, 3) := by decide +kernel
theorem dX0_open_8 : decode cX0_open 8 = .ok (.iconst 4, 1) := by decide +kernel
theorem dX0_open_9 : decode cX0_open 9 = .ok (.if_icmp .ge 10, 3) := by decide +kernel
theorem dX0_open_12 : decode cX0_open 12 = .ok (.aload_n 0, 1) := by decide +kernel
theorem dX0_open_13 : decode cX0_open 13 = .ok (.getfield 35, 3) := by decide +kernel
theorem dX0_open_16 : decode cX0_open 16 = .ok (.goto 4, 3) := by decide +kernel
theorem dX0_open_19 : decode cX0_open 19 = .ok (.iconst 3, 1) := by decide +kernel
theorem dX0_open_20 : decode cX0_open 20 = .ok (.aaload, 1) := by decide +kernel
theorem dX0_open_21 : decode cX0_open 21 = .ok (.areturn, 1) := by decide +kernel
theorem dX0_addReference_0 : decode cX0_addReference 0 = .ok (.aload_n 0, 1) := by decide +kernel
theorem dX0_addReference_1 : decode cX0_addReference 1 = .ok (.getfield 39, 3) := by decide +kernel
theorem dX0_addReference_4 : decode cX0_addReference 4 = .ok (.bipush 24, 2) := by decide +kernel
theorem dX0_addReference_6 : decode cX0_addReference 6 = .ok (.if_icmp .ge 46, 3) := by decide +kernel
theorem dX0_addReference_9 : decode cX0_addReference 9 = .ok (.aload_n 0, 1) := by decide +kernel
theorem dX0_addReference_10 : decode cX0_addReference 10 = .ok (.getfield 9, 3) := by decide +kernel
theorem dX0_addReference_13 : decode cX0_addReference 13 = .ok (.aload_n 0, 1) := by decide +kernel
theorem dX0_addReference_14 : decode cX0_addReference 14 = .ok (.getfield 39, 3) := by decide +kernel
theorem dX0_addReference_17 : decode cX0_addReference 17 = .ok (.iload_n 1, 1) := by decide +kernel
theorem dX0_addReference_18 : decode cX0_addReference 18 = .ok (.iastore, 1) := by decide +kernel
theorem dX0_addReference_19 : decode cX0_addReference 19 = .ok (.aload_n 0, 1) := by decide +kernel
theorem dX0_addReference_20 : decode cX0_addReference 20 = .ok (.getfield 15, 3) := by decide +kernel
theorem dX0_addReference_23 : decode cX0_addReference 23 = .ok (.aload_n 0, 1) := by decide +kernel
theorem dX0_addReference_24 : decode cX0_addReference 24 = .ok (.getfield 39, 3) := by decide +kernel
theorem dX0_addReference_27 : decode cX0_addReference 27 = .ok (.iload_n 2, 1) := by decide +kernel
theorem dX0_addReference_28 : decode cX0_addReference 28 = .ok (.bastore, 1) := by decide +kernel
theorem dX0_addReference_29 : decode cX0_addReference 29 = .ok (.aload_n 0, 1) := by decide +kernel
theorem dX0_addReference_30 : decode cX0_addReference 30 = .ok (.getfield 19, 3) := by decide +kernel
theorem dX0_addReference_33 : decode cX0_addReference 33 = .ok (.aload_n 0, 1) := by decide +kernel
theorem dX0_addReference_34 : decode cX0_addReference 34 = .ok (.getfield 39, 3) := by decide +kernel
theorem dX0_addReference_37 : decode cX0_addReference 37 = .ok (.aload_n 0, 1) := by decide +kernel
theorem dX0_addReference_38 : decode cX0_addReference 38 = .ok (.getfield 35, 3) := by decide +kernel
theorem dX0_addReference_41 : decode cX0_addReference 41 = .ok (.iastore, 1) := by decide +kernel
theorem dX0_addReference_42 : decode cX0_addReference 42 = .ok (.aload_n 0, 1) := by decide +kernel
theorem dX0_addReference_43 : decode cX0_addReference 43 = .ok (.dup, 1) := by decide +kernel
theorem dX0_addReference_44 : decode cX0_addReference 44 = .ok (.getfield 39, 3) := by decide +kernel
theorem dX0_addReference_47 : decode cX0_addReference 47 = .ok (.iconst 1, 1) := by decide +kernel
theorem dX0_addReference_48 : decode cX0_addReference 48 = .ok (.iadd, 1) := by decide +kernel
theorem dX0_addReference_49 : decode cX0_addReference 49 = .ok (.putfield 39, 3) := by decide +kernel
theorem dX0_addReference_52 : decode cX0_addReference 52 = .ok (.return_, 1) := by decide +kernel
theorem dX0_addToken_0 : decode cX0_addToken 0 = .ok (.aload_n 0, 1) := by decide +kernel
theorem dX0_addToken_1 : decode cX0_addToken 1 = .ok (.getfield 42, 3) := by decide +kernel
theorem dX0_addToken_4 : decode cX0_addToken 4 = .ok (.bipush 120, 2) := by decide +kernel
theorem dX0_addToken_6 : decode cX0_addToken 6 = .ok (.if_icmp .ge 33, 3) := by decide +kernel
theorem dX0_addToken_9 : decode cX0_addToken 9 = .ok (.aload_n 0, 1) := by decide +kernel
theorem dX0_addToken_10 : decode cX0_addToken 10 = .ok (.getfield 28, 3) := by decide +kernel
theorem dX0_addToken_13 : decode cX0_addToken 13 = .ok (.aload_n 0, 1) := by decide +kernel
theorem dX0_addToken_14 : decode cX0_addToken 14 = .ok (.getfield 42, 3) := by decide +kernel
theorem dX0_addToken_17 : decode cX0_addToken 17 = .ok (.iload_n 1, 1) := by decide +kernel
theorem dX0_addToken_18 : decode cX0_addToken 18 = .ok (.iastore, 1) := by decide +kernel
theorem dX0_addToken_19 : decode cX0_addToken 19 = .ok (.aload_n 0, 1) := by decide +kernel
theorem dX0_addToken_20 : decode cX0_addToken 20 = .ok (.getfield 31, 3) := by decide +kernel
theorem dX0_addToken_23 : decode cX0_addToken 23 = .ok (.aload_n 0, 1) := by decide +kernel
theorem dX0_addToken_24 : decode cX0_addToken 24 = .ok (.getfield 42, 3) := by decide +kernel
theorem dX0_addToken_27 : decode cX0_addToken 27 = .ok (.iload_n 2, 1) := by decide +kernel
theorem dX0_addToken_28 : decode cX0_addToken 28 = .ok (.iastore, 1) := by decide +kernel
theorem dX0_addToken_29 : decode cX0_addToken 29 = .ok (.aload_n 0, 1) := by decide +kernel
theorem dX0_addToken_30 : decode cX0_addToken 30 = .ok (.dup, 1) := by decide +kernel
theorem dX0_addToken_31 : decode cX0_addToken 31 = .ok (.getfield 42, 3) := by decide +kernel
theorem dX0_addToken_34 : decode cX0_addToken 34 = .ok (.iconst 1, 1) := by decide +kernel
theorem dX0_addToken_35 : decode cX0_addToken 35 = .ok (.iadd, 1) := by decide +kernel
theorem dX0_addToken_36 : decode cX0_addToken 36 = .ok (.putfield 42, 3) := by decide +kernel
theorem dX0_addToken_39 : decode cX0_addToken 39 = .ok (.return_, 1) := by decide +kernel
theorem dX0_addRead_0 : decode cX0_addRead 0 = .ok (.aload_n 0, 1) := by decide +kernel
theorem dX0_addRead_1 : decode cX0_addRead 1 = .ok (.iload_n 1, 1) := by decide +kernel
theorem dX0_addRead_2 : decode cX0_addRead 2 = .ok (.iconst 0, 1) := by decide +kernel
theorem dX0_addRead_3 : decode cX0_addRead 3 = .ok (.invokevirtual 45, 3) := by decide +kernel
theorem dX0_addRead_6 : decode cX0_addRead 6 = .ok (.aload_n 0, 1) := by decide +kernel
theorem dX0_addRead_7 : decode cX0_addRead 7 = .ok (.iconst 5, 1) := by decide +kernel
theorem dX0_addRead_8 : decode cX0_addRead 8 = .ok (.iload_n 1, 1) := by decide +kernel
theorem dX0_addRead_9 : decode cX0_addRead 9 = .ok (.invokevirtual 49, 3) := by decide +kernel
theorem dX0_addRead_12 : decode cX0_addRead 12 = .ok (.aload_n 0, 1) := by decide +kernel
theorem dX0_addRead_13 : decode cX0_addRead 13 = .ok (.invokevirtual 53, 3) := by decide +kernel
theorem dX0_addRead_16 : decode cX0_addRead 16 = .ok (.dup, 1) := by decide +kernel
theorem dX0_addRead_17 : decode cX0_addRead 17 = .ok (.getfield 57, 3) := by decide +kernel
theorem dX0_addRead_20 : decode cX0_addRead 20 = .ok (.iconst 1, 1) := by decide +kernel
theorem dX0_addRead_21 : decode cX0_addRead 21 = .ok (.iadd, 1) := by decide +kernel
theorem dX0_addRead_22 : decode cX0_addRead 22 = .ok (.putfield 57, 3) := by decide +kernel
theorem dX0_addRead_25 : decode cX0_addRead 25 = .ok (.return_, 1) := by decide +kernel
theorem dX0_addOperator_0 : decode cX0_addOperator 0 = .ok (.iload_n 1, 1) := by decide +kernel
theorem dX0_addOperator_1 : decode cX0_addOperator 1 = .ok (.ifCond .lt 27, 3) := by decide +kernel
theorem dX0_addOperator_4 : decode cX0_addOperator 4 = .ok (.iload_n 1, 1) := by decide +kernel
theorem dX0_addOperator_5 : decode cX0_addOperator 5 = .ok (.iconst 2, 1) := by decide +kernel
theorem dX0_addOperator_6 : decode cX0_addOperator 6 = .ok (.if_icmp .gt 22, 3) := by decide +kernel
theorem dX0_addOperator_9 : decode cX0_addOperator 9 = .ok (.aload_n 0, 1) := by decide +kernel
theorem dX0_addOperator_10 : decode cX0_addOperator 10 = .ok (.iload_n 1, 1) := by decide +kernel
theorem dX0_addOperator_11 : decode cX0_addOperator 11 = .ok (.iconst 0, 1) := by decide +kernel
theorem dX0_addOperator_12 : decode cX0_addOperator 12 = .ok (.invokevirtual 49, 3) := by decide +kernel
theorem dX0_addOperator_15 : decode cX0_addOperator 15 = .ok (.aload_n 0, 1) := by decide +kernel
theorem dX0_addOperator_16 : decode cX0_addOperator 16 = .ok (.invokevirtual 53, 3) := by decide +kernel
theorem dX0_addOperator_19 : decode cX0_addOperator 19 = .ok (.getfield 60, 3) := by decide +kernel
theorem dX0_addOperator_22 : decode cX0_addOperator 22 = .ok (.iload_n 1, 1) := by decide +kernel
theorem dX0_addOperator_23 : decode cX0_addOperator 23 = .ok (.dup2, 1) := by decide +kernel
theorem dX0_addOperator_24 : decode cX0_addOperator 24 = .ok (.iaload, 1) := by decide +kernel
theorem dX0_addOperator_25 : decode cX0_addOperator 25 = .ok (.iconst 1, 1) := by decide +kernel
theorem dX0_addOperator_26 : decode cX0_addOperator 26 = .ok (.iadd, 1) := by decide +kernel
theorem dX0_addOperator_27 : decode cX0_addOperator 27 = .ok (.iastore, 1) := by decide +kernel
theorem dX0_addOperator_28 : decode cX0_addOperator 28 = .ok (.return_, 1) := by decide +kernel
theorem dX0_begin_0 : decode cX0_begin 0 = .ok (.aload_n 0, 1) := by decide +kernel
theorem dX0_begin_1 : decode cX0_begin 1 = .ok (.invokevirtual 53, 3) := by decide +kernel
theorem dX0_begin_4 : decode cX0_begin 4 = .ok (.aload_n 0, 1) := by decide +kernel
theorem dX0_begin_5 : decode cX0_begin 5 = .ok (.getfield 42, 3) := by decide +kernel
theorem dX0_begin_8 : decode cX0_begin 8 = .ok (.putfield 63, 3) := by decide +kernel
theorem dX0_begin_11 : decode cX0_begin 11 = .ok (.return_, 1) := by decide +kernel
theorem dX0_close_0 : decode cX0_close 0 = .ok (.aload_n 0, 1) := by decide +kernel
theorem dX0_close_1 : decode cX0_close 1 = .ok (.invokevirtual 53, 3) := by decide +kernel
theorem dX0_close_4 : decode cX0_close 4 = .ok (.astore_n 3, 1) := by decide +kernel
theorem dX0_close_5 : decode cX0_close 5 = .ok (.aload_n 3, 1) := by decide +kernel
theorem dX0_close_6 : decode cX0_close 6 = .ok (.iload_n 1, 1) := by decide +kernel
theorem dX0_close_7 : decode cX0_close 7 = .ok (.putfield 66, 3) := by decide +kernel
theorem dX0_close_10 : decode cX0_close 10 = .ok (.aload_n 3, 1) := by decide +kernel
theorem dX0_close_11 : decode cX0_close 11 = .ok (.iload_n 2, 1) := by decide +kernel
theorem dX0_close_12 : decode cX0_close 12 = .ok (.putfield 69, 3) := by decide +kernel
theorem dX0_close_15 : decode cX0_close 15 = .ok (.aload_n 3, 1) := by decide +kernel
theorem dX0_close_16 : decode cX0_close 16 = .ok (.aload_n 0, 1) := by decide +kernel
theorem dX0_close_17 : decode cX0_close 17 = .ok (.getfield 42, 3) := by decide +kernel
theorem dX0_close_20 : decode cX0_close 20 = .ok (.putfield 72, 3) := by decide +kernel
theorem dX0_close_23 : decode cX0_close 23 = .ok (.aload_n 0, 1) := by decide +kernel
theorem dX0_close_24 : decode cX0_close 24 = .ok (.iload_n 1, 1) := by decide +kernel
theorem dX0_close_25 : decode cX0_close 25 = .ok (.iconst 1, 1) := by decide +kernel
theorem dX0_close_26 : decode cX0_close 26 = .ok (.invokevirtual 45, 3) := by decide +kernel
theorem dX0_close_29 : decode cX0_close 29 = .ok (.aload_n 0, 1) := by decide +kernel
theorem dX0_close_30 : decode cX0_close 30 = .ok (.dup, 1) := by decide +kernel
theorem dX0_close_31 : decode cX0_close 31 = .ok (.getfield 35, 3) := by decide +kernel
theorem dX0_close_34 : decode cX0_close 34 = .ok (.iconst 1, 1) := by decide +kernel
theorem dX0_close_35 : decode cX0_close 35 = .ok (.iadd, 1) := by decide +kernel
theorem dX0_close_36 : decode cX0_close 36 = .ok (.putfield 35, 3) := by decide +kernel
theorem dX0_close_39 : decode cX0_close 39 = .ok (.return_, 1) := by decide +kernel
theorem dX1_init_0 : decode cX1_init 0 = .ok (.aload_n 0, 1) := by decide +kernel
theorem dX1_init_1 : decode cX1_init 1 = .ok (.invokespecial 3, 3) := by decide +kernel
theorem dX1_init_4 : decode cX1_init 4 = .ok (.aload_n 0, 1) := by decide +kernel
theorem dX1_init_5 : decode cX1_init 5 = .ok (.bipush 6, 2) := by decide +kernel
theorem dX1_init_7 : decode cX1_init 7 = .ok (.newarray .int, 2) := by decide +kernel
theorem dX1_init_9 : decode cX1_init 9 = .ok (.putfield 9, 3) := by decide +kernel
theorem dX1_init_12 : decode cX1_init 12 = .ok (.aload_n 0, 1) := by decide +kernel
theorem dX1_init_13 : decode cX1_init 13 = .ok (.bipush 6, 2) := by decide +kernel
theorem dX1_init_15 : decode cX1_init 15 = .ok (.bipush 6, 2) := by decide +kernel
theorem dX1_init_17 : decode cX1_init 17 = .ok (.multianewarray 15 2, 4) := by decide +kernel
theorem dX1_init_21 : decode cX1_init 21 = .ok (.putfield 17, 3) := by decide +kernel
theorem dX1_init_24 : decode cX1_init 24 = .ok (.aload_n 0, 1) := by decide +kernel
theorem dX1_init_25 : decode cX1_init 25 = .ok (.iconst (-1), 1) := by decide +kernel
theorem dX1_init_26 : decode cX1_init 26 = .ok (.putfield 20, 3) := by decide +kernel
theorem dX1_init_29 : decode cX1_init 29 = .ok (.aload_n 0, 1) := by decide +kernel
theorem dX1_init_30 : decode cX1_init 30 = .ok (.aload_n 1, 1) := by decide +kernel
theorem dX1_init_31 : decode cX1_init 31 = .ok (.putfield 24, 3) := by decide +kernel
theorem dX1_init_34 : decode cX1_init 34 = .ok (.aload_n 0, 1) := by decide +kernel
theorem dX1_init_35 : decode cX1_init 35 = .ok (.aload_n 2, 1) := by decide +kernel
theorem dX1_init_36 : decode cX1_init 36 = .ok (.putfield 28, 3) := by decide +kernel
theorem dX1_init_39 : decode cX1_init 39 = .ok (.return_, 1) := by decide +kernel
theorem dX1_refresh_0 : decode cX1_refresh 0 = .ok (.aload_n 0, 1) := by decide +kernel
theorem dX1_refresh_1 : decode cX1_refresh 1 = .ok (.getfield 20, 3) := by decide +kernel
theorem dX1_refresh_4 : decode cX1_refresh 4 = .ok (.aload_n 0, 1) := by decide +kernel
theorem dX1_refresh_5 : decode cX1_refresh 5 = .ok (.getfield 24, 3) := by decide +kernel
theorem dX1_refresh_8 : decode cX1_refresh 8 = .ok (.getfield 32, 3) := by decide +kernel
theorem dX1_refresh_11 : decode cX1_refresh 11 = .ok (.if_icmp .ne 4, 3) := by decide +kernel
theorem dX1_refresh_14 : decode cX1_refresh 14 = .ok (.return_, 1) := by decide +kernel
theorem dX1_refresh_15 : decode cX1_refresh 15 = .ok (.iconst 0, 1) := by decide +kernel
theorem dX1_refresh_16 : decode cX1_refresh 16 = .ok (.istore_n 1, 1) := by decide +kernel
theorem dX1_refresh_17 : decode cX1_refresh 17 = .ok (.iload_n 1, 1) := by decide +kernel
theorem dX1_refresh_18 : decode cX1_refresh 18 = .ok (.aload_n 0, 1) := by decide +kernel
theorem dX1_refresh_19 : decode cX1_refresh 19 = .ok (.getfield 24, 3) := by decide +kernel
theorem dX1_refresh_22 : decode cX1_refresh 22 = .ok (.getfield 37, 3) := by decide +kernel
theorem dX1_refresh_25 : decode cX1_refresh 25 = .ok (.if_icmp .ge 68, 3) := by decide +kernel
theorem dX1_refresh_28 : decode cX1_refresh 28 = .ok (.iload_n 1, 1) := by decide +kernel
theorem dX1_refresh_29 : decode cX1_refresh 29 = .ok (.bipush 6, 2) := by decide +kernel
theorem dX1_refresh_31 : decode cX1_refresh 31 = .ok (.if_icmp .ge 62, 3) := by decide +kernel
theorem dX1_refresh_34 : decode cX1_refresh 34 = .ok (.iconst 0, 1) := by decide +kernel
theorem dX1_refresh_35 : decode cX1_refresh 35 = .ok (.istore_n 2, 1) := by decide +kernel
theorem dX1_refresh_36 : decode cX1_refresh 36 = .ok (.iload_n 2, 1) := by decide +kernel
theorem dX1_refresh_37 : decode cX1_refresh 37 = .ok (.iload_n 1, 1) := by decide +kernel
theorem dX1_refresh_38 : decode cX1_refresh 38 = .ok (.if_icmp .ge 49, 3) := by decide +kernel
theorem dX1_refresh_41 : decode cX1_refresh 41 = .ok (.aload_n 0, 1) := by decide +kernel
theorem dX1_refresh_42 : decode cX1_refresh 42 = .ok (.getfield 28, 3) := by decide +kernel
theorem dX1_refresh_45 : decode cX1_refresh 45 = .ok (.aload_n 0, 1) := by decide +kernel
theorem dX1_refresh_46 : decode cX1_refresh 46 = .ok (.getfield 24, 3) := by decide +kernel
theorem dX1_refresh_49 : decode cX1_refresh 49 = .ok (.getfield 40, 3) := by decide +kernel
theorem dX1_refresh_52 : decode cX1_refresh 52 = .ok (.iload_n 2, 1) := by decide +kernel
theorem dX1_refresh_53 : decode cX1_refresh 53 = .ok (.aaload, 1) := by decide +kernel
theorem dX1_refresh_54 : decode cX1_refresh 54 = .ok (.aload_n 0, 1) := by decide +kernel
theorem dX1_refresh_55 : decode cX1_refresh 55 = .ok (.getfield 24, 3) := by decide +kernel
theorem dX1_refresh_58 : decode cX1_refresh 58 = .ok (.getfield 40, 3) := by decide +kernel
theorem dX1_refresh_61 : decode cX1_refresh 61 = .ok (.iload_n 1, 1) := by decide +kernel
theorem dX1_refresh_62 : decode cX1_refresh 62 = .ok (.aaload, 1) := by decide +kernel
theorem dX1_refresh_63 : decode cX1_refresh 63 = .ok (.invokevirtual 44, 3) := by decide +kernel
theorem dX1_refresh_66 : decode cX1_refresh 66 = .ok (.aload_n 0, 1) := by decide +kernel
theorem dX1_refresh_67 : decode cX1_refresh 67 = .ok (.getfield 17, 3) := by decide +kernel
theorem dX1_refresh_70 : decode cX1_refresh 70 = .ok (.iload_n 2, 1) := by decide +kernel
theorem dX1_refresh_71 : decode cX1_refresh 71 = .ok (.aaload, 1) := by decide +kernel
theorem dX1_refresh_72 : decode cX1_refresh 72 = .ok (.iload_n 1, 1) := by decide +kernel
theorem dX1_refresh_73 : decode cX1_refresh 73 = .ok (.aload_n 0, 1) := by decide +kernel
theorem dX1_refresh_74 : decode cX1_refresh 74 = .ok (.getfield 28, 3) := by decide +kernel
theorem dX1_refresh_77 : decode cX1_refresh 77 = .ok (.getfield 50, 3) := by decide +kernel
theorem dX1_refresh_80 : decode cX1_refresh 80 = .ok (.iastore, 1) := by decide +kernel
theorem dX1_refresh_81 : decode cX1_refresh 81 = .ok (.iinc 2 1, 3) := by decide +kernel
theorem dX1_refresh_84 : decode cX1_refresh 84 = .ok (.goto (-48), 3) := by decide +kernel
theorem dX1_refresh_87 : decode cX1_refresh 87 = .ok (.iinc 1 1, 3) := by decide +kernel
theorem dX1_refresh_90 : decode cX1_refresh 90 = .ok (.goto (-73), 3) := by decide +kernel
theorem dX1_refresh_93 : decode cX1_refresh 93 = .ok (.aload_n 0, 1) := by decide +kernel
theorem dX1_refresh_94 : decode cX1_refresh 94 = .ok (.aload_n 0, 1) := by decide +kernel
theorem dX1_refresh_95 : decode cX1_refresh 95 = .ok (.getfield 24, 3) := by decide +kernel
theorem dX1_refresh_98 : decode cX1_refresh 98 = .ok (.getfield 32, 3) := by decide +kernel
theorem dX1_refresh_101 : decode cX1_refresh 101 = .ok (.putfield 20, 3) := by decide +kernel
theorem dX1_refresh_104 : decode cX1_refresh 104 = .ok (.return_, 1) := by decide +kernel
theorem dX1_take_0 : decode cX1_take 0 = .ok (.aload_n 0, 1) := by decide +kernel
theorem dX1_take_1 : decode cX1_take 1 = .ok (.iload_n 1, 1) := by decide +kernel
theorem dX1_take_2 : decode cX1_take 2 = .ok (.iconst 0, 1) := by decide +kernel
theorem dX1_take_3 : decode cX1_take 3 = .ok (.invokestatic 53, 3) := by decide +kernel
theorem dX1_take_6 : decode cX1_take 6 = .ok (.putfield 59, 3) := by decide +kernel
theorem dX1_take_9 : decode cX1_take 9 = .ok (.aload_n 0, 1) := by decide +kernel
theorem dX1_take_10 : decode cX1_take 10 = .ok (.iload_n 2, 1) := by decide +kernel
theorem dX1_take_11 : decode cX1_take 11 = .ok (.aload_n 0, 1) := by decide +kernel
theorem dX1_take_12 : decode cX1_take 12 = .ok (.getfield 24, 3) := by decide +kernel
theorem dX1_take_15 : decode cX1_take 15 = .ok (.getfield 37, 3) := by decide +kernel
theorem dX1_take_18 : decode cX1_take 18 = .ok (.iconst 1, 1) := by decide +kernel
theorem dX1_take_19 : decode cX1_take 19 = .ok (.isub, 1) := by decide +kernel
theorem dX1_take_20 : decode cX1_take 20 = .ok (.invokestatic 62, 3) := by decide +kernel
theorem dX1_take_23 : decode cX1_take 23 = .ok (.putfield 65, 3) := by decide +kernel
theorem dX1_take_26 : decode cX1_take 26 = .ok (.aload_n 0, 1) := by decide +kernel
theorem dX1_take_27 : decode cX1_take 27 = .ok (.getfield 59, 3) := by decide +kernel
theorem dX1_take_30 : decode cX1_take 30 = .ok (.istore_n 3, 1) := by decide +kernel
theorem dX1_take_31 : decode cX1_take 31 = .ok (.iload_n 3, 1) := by decide +kernel
theorem dX1_take_32 : decode cX1_take 32 = .ok (.aload_n 0, 1) := by decide +kernel
theorem dX1_take_33 : decode cX1_take 33 = .ok (.getfield 65, 3) := by decide +kernel
theorem dX1_take_36 : decode cX1_take 36 = .ok (.if_icmp .gt 72, 3) := by decide +kernel
theorem dX1_take_39 : decode cX1_take 39 = .ok (.iload_n 3, 1) := by decide +kernel
theorem dX1_take_40 : decode cX1_take 40 = .ok (.bipush 6, 2) := by decide +kernel
theorem dX1_take_42 : decode cX1_take 42 = .ok (.if_icmp .ge 66, 3) := by decide +kernel
theorem dX1_take_45 : decode cX1_take 45 = .ok (.aload_n 0, 1) := by decide +kernel
theorem dX1_take_46 : decode cX1_take 46 = .ok (.getfield 9, 3) := by decide +kernel
theorem dX1_take_49 : decode cX1_take 49 = .ok (.iload_n 3, 1) := by decide +kernel
theorem dX1_take_50 : decode cX1_take 50 = .ok (.iconst 0, 1) := by decide +kernel
theorem dX1_take_51 : decode cX1_take 51 = .ok (.iastore, 1) := by decide +kernel
theorem dX1_take_52 : decode cX1_take 52 = .ok (.aload_n 0, 1) := by decide +kernel
theorem dX1_take_53 : decode cX1_take 53 = .ok (.getfield 59, 3) := by decide +kernel
theorem dX1_take_56 : decode cX1_take 56 = .ok (.istore 4, 2) := by decide +kernel
theorem dX1_take_58 : decode cX1_take 58 = .ok (.iload 4, 2) := by decide +kernel
theorem dX1_take_60 : decode cX1_take 60 = .ok (.iload_n 3, 1) := by decide +kernel
theorem dX1_take_61 : decode cX1_take 61 = .ok (.if_icmp .ge 41, 3) := by decide +kernel
theorem dX1_take_64 : decode cX1_take 64 = .ok (.aload_n 0, 1) := by decide +kernel
theorem dX1_take_65 : decode cX1_take 65 = .ok (.getfield 9, 3) := by decide +kernel
theorem dX1_take_68 : decode cX1_take 68 = .ok (.iload_n 3, 1) := by decide +kernel
theorem dX1_take_69 : decode cX1_take 69 = .ok (.aload_n 0, 1) := by decide +kernel
theorem dX1_take_70 : decode cX1_take 70 = .ok (.getfield 9, 3) := by decide +kernel
theorem dX1_take_73 : decode cX1_take 73 = .ok (.iload_n 3, 1) := by decide +kernel
theorem dX1_take_74 : decode cX1_take 74 = .ok (.iaload, 1) := by decide +kernel
theorem dX1_take_75 : decode cX1_take 75 = .ok (.aload_n 0, 1) := by decide +kernel
theorem dX1_take_76 : decode cX1_take 76 = .ok (.getfield 9, 3) := by decide +kernel
theorem dX1_take_79 : decode cX1_take 79 = .ok (.iload 4, 2) := by decide +kernel
theorem dX1_take_81 : decode cX1_take 81 = .ok (.iaload, 1) := by decide +kernel
theorem dX1_take_82 : decode cX1_take 82 = .ok (.aload_n 0, 1) := by decide +kernel
theorem dX1_take_83 : decode cX1_take 83 = .ok (.getfield 17, 3) := by decide +kernel
theorem dX1_take_86 : decode cX1_take 86 = .ok (.iload 4, 2) := by decide +kernel
theorem dX1_take_88 : decode cX1_take 88 = .ok (.aaload, 1) := by decide +kernel
theorem dX1_take_89 : decode cX1_take 89 = .ok (.iload_n 3, 1) := by decide +kernel
theorem dX1_take_90 : decode cX1_take 90 = .ok (.iaload, 1) := by decide +kernel
theorem dX1_take_91 : decode cX1_take 91 = .ok (.iadd, 1) := by decide +kernel
theorem dX1_take_92 : decode cX1_take 92 = .ok (.invokestatic 53, 3) := by decide +kernel
theorem dX1_take_95 : decode cX1_take 95 = .ok (.iastore, 1) := by decide +kernel
theorem dX1_take_96 : decode cX1_take 96 = .ok (.iinc 4 1, 3) := by decide +kernel
theorem dX1_take_99 : decode cX1_take 99 = .ok (.goto (-41), 3) := by decide +kernel
theorem dX1_take_102 : decode cX1_take 102 = .ok (.iinc 3 1, 3) := by decide +kernel
theorem dX1_take_105 : decode cX1_take 105 = .ok (.goto (-74), 3) := by decide +kernel
theorem dX1_take_108 : decode cX1_take 108 = .ok (.aload_n 0, 1) := by decide +kernel
theorem dX1_take_109 : decode cX1_take 109 = .ok (.invokevirtual 68, 3) := by decide +kernel
theorem dX1_take_112 : decode cX1_take 112 = .ok (.return_, 1) := by decide +kernel
theorem dX1_countSteps_0 : decode cX1_countSteps 0 = .ok (.aload_n 0, 1) := by decide +kernel
theorem dX1_countSteps_1 : decode cX1_countSteps 1 = .ok (.getfield 59, 3) := by decide +kernel
theorem dX1_countSteps_4 : decode cX1_countSteps 4 = .ok (.istore_n 1, 1) := by decide +kernel
theorem dX1_countSteps_5 : decode cX1_countSteps 5 = .ok (.iload_n 1, 1) := by decide +kernel
theorem dX1_countSteps_6 : decode cX1_countSteps 6 = .ok (.aload_n 0, 1) := by decide +kernel
theorem dX1_countSteps_7 : decode cX1_countSteps 7 = .ok (.getfield 65, 3) := by decide +kernel
theorem dX1_countSteps_10 : decode cX1_countSteps 10 = .ok (.if_icmp .gt 151, 3) := by decide +kernel
theorem dX1_countSteps_13 : decode cX1_countSteps 13 = .ok (.iload_n 1, 1) := by decide +kernel
theorem dX1_countSteps_14 : decode cX1_countSteps 14 = .ok (.bipush 6, 2) := by decide +kernel
theorem dX1_countSteps_16 : decode cX1_countSteps 16 = .ok (.if_icmp .ge 145, 3) := by decide +kernel
theorem dX1_countSteps_19 : decode cX1_countSteps 19 = .ok (.aload_n 0, 1) := by decide +kernel
theorem dX1_countSteps_20 : decode cX1_countSteps 20 = .ok (.getfield 24, 3) := by decide +kernel
theorem dX1_countSteps_23 : decode cX1_countSteps 23 = .ok (.getfield 40, 3) := by decide +kernel
theorem dX1_countSteps_26 : decode cX1_countSteps 26 = .ok (.iload_n 1, 1) := by decide +kernel
theorem dX1_countSteps_27 : decode cX1_countSteps 27 = .ok (.aaload, 1) := by decide +kernel
theorem dX1_countSteps_28 : decode cX1_countSteps 28 = .ok (.getfield 71, 3) := by decide +kernel
theorem dX1_countSteps_31 : decode cX1_countSteps 31 = .ok (.aload_n 0, 1) := by decide +kernel
theorem dX1_countSteps_32 : decode cX1_countSteps 32 = .ok (.getfield 9, 3) := by decide +kernel
theorem dX1_countSteps_35 : decode cX1_countSteps 35 = .ok (.iload_n 1, 1) := by decide +kernel
theorem dX1_countSteps_36 : decode cX1_countSteps 36 = .ok (.iaload, 1) := by decide +kernel
theorem dX1_countSteps_37 : decode cX1_countSteps 37 = .ok (.iadd, 1) := by decide +kernel
theorem dX1_countSteps_38 : decode cX1_countSteps 38 = .ok (.istore_n 2, 1) := by decide +kernel
theorem dX1_countSteps_39 : decode cX1_countSteps 39 = .ok (.aload_n 0, 1) := by decide +kernel
theorem dX1_countSteps_40 : decode cX1_countSteps 40 = .ok (.getfield 24, 3) := by decide +kernel
theorem dX1_countSteps_43 : decode cX1_countSteps 43 = .ok (.getfield 40, 3) := by decide +kernel
theorem dX1_countSteps_46 : decode cX1_countSteps 46 = .ok (.iload_n 1, 1) := by decide +kernel
theorem dX1_countSteps_47 : decode cX1_countSteps 47 = .ok (.aaload, 1) := by decide +kernel
theorem dX1_countSteps_48 : decode cX1_countSteps 48 = .ok (.getfield 74, 3) := by decide +kernel
theorem dX1_countSteps_51 : decode cX1_countSteps 51 = .ok (.aload_n 0, 1) := by decide +kernel
theorem dX1_countSteps_52 : decode cX1_countSteps 52 = .ok (.getfield 9, 3) := by decide +kernel
theorem dX1_countSteps_55 : decode cX1_countSteps 55 = .ok (.iload_n 1, 1) := by decide +kernel
theorem dX1_countSteps_56 : decode cX1_countSteps 56 = .ok (.iaload, 1) := by decide +kernel
theorem dX1_countSteps_57 : decode cX1_countSteps 57 = .ok (.iadd, 1) := by decide +kernel
theorem dX1_countSteps_58 : decode cX1_countSteps 58 = .ok (.istore_n 3, 1) := by decide +kernel
theorem dX1_countSteps_59 : decode cX1_countSteps 59 = .ok (.aload_n 0, 1) := by decide +kernel
theorem dX1_countSteps_60 : decode cX1_countSteps 60 = .ok (.iload_n 1, 1) := by decide +kernel
theorem dX1_countSteps_61 : decode cX1_countSteps 61 = .ok (.aload_n 0, 1) := by decide +kernel
theorem dX1_countSteps_62 : decode cX1_countSteps 62 = .ok (.getfield 59, 3) := by decide +kernel
theorem dX1_countSteps_65 : decode cX1_countSteps 65 = .ok (.if_icmp .ne 7, 3) := by decide +kernel
theorem dX1_countSteps_68 : decode cX1_countSteps 68 = .ok (.iload_n 2, 1) := by decide +kernel
theorem dX1_countSteps_69 : decode cX1_countSteps 69 = .ok (.goto 11, 3) := by decide +kernel
theorem dX1_countSteps_72 : decode cX1_countSteps 72 = .ok (.aload_n 0, 1) := by decide +kernel
theorem dX1_countSteps_73 : decode cX1_countSteps 73 = .ok (.getfield 75, 3) := by decide +kernel
theorem dX1_countSteps_76 : decode cX1_countSteps 76 = .ok (.iload_n 2, 1) := by decide +kernel
theorem dX1_countSteps_77 : decode cX1_countSteps 77 = .ok (.invokestatic 62, 3) := by decide +kernel
theorem dX1_countSteps_80 : decode cX1_countSteps 80 = .ok (.putfield 75, 3) := by decide +kernel
theorem dX1_countSteps_83 : decode cX1_countSteps 83 = .ok (.aload_n 0, 1) := by decide +kernel
theorem dX1_countSteps_84 : decode cX1_countSteps 84 = .ok (.iload_n 1, 1) := by decide +kernel
theorem dX1_countSteps_85 : decode cX1_countSteps 85 = .ok (.aload_n 0, 1) := by decide +kernel
theorem dX1_countSteps_86 : decode cX1_countSteps 86 = .ok (.getfield 59, 3) := by decide +kernel
theorem dX1_countSteps_89 : decode cX1_countSteps 89 = .ok (.if_icmp .ne 7, 3) := by decide +kernel
theorem dX1_countSteps_92 : decode cX1_countSteps 92 = .ok (.iload_n 3, 1) := by decide +kernel
theorem dX1_countSteps_93 : decode cX1_countSteps 93 = .ok (.goto 11, 3) := by decide +kernel
theorem dX1_countSteps_96 : decode cX1_countSteps 96 = .ok (.aload_n 0, 1) := by decide +kernel
theorem dX1_countSteps_97 : decode cX1_countSteps 97 = .ok (.getfield 78, 3) := by decide +kernel
theorem dX1_countSteps_100 : decode cX1_countSteps 100 = .ok (.iload_n 3, 1) := by decide +kernel
theorem dX1_countSteps_101 : decode cX1_countSteps 101 = .ok (.invokestatic 53, 3) := by decide +kernel
theorem dX1_countSteps_104 : decode cX1_countSteps 104 = .ok (.putfield 78, 3) := by decide +kernel
theorem dX1_countSteps_107 : decode cX1_countSteps 107 = .ok (.aload_n 0, 1) := by decide +kernel
theorem dX1_countSteps_108 : decode cX1_countSteps 108 = .ok (.iload_n 1, 1) := by decide +kernel
theorem dX1_countSteps_109 : decode cX1_countSteps 109 = .ok (.aload_n 0, 1) := by decide +kernel
theorem dX1_countSteps_110 : decode cX1_countSteps 110 = .ok (.getfield 59, 3) := by decide +kernel
theorem dX1_countSteps_113 : decode cX1_countSteps 113 = .ok (.if_icmp .ne 7, 3) := by decide +kernel
theorem dX1_countSteps_116 : decode cX1_countSteps 116 = .ok (.iload_n 2, 1) := by decide +kernel
theorem dX1_countSteps_117 : decode cX1_countSteps 117 = .ok (.goto 11, 3) := by decide +kernel
theorem dX1_countSteps_120 : decode cX1_countSteps 120 = .ok (.aload_n 0, 1) := by decide +kernel
theorem dX1_countSteps_121 : decode cX1_countSteps 121 = .ok (.getfield 81, 3) := by decide +kernel
theorem dX1_countSteps_124 : decode cX1_countSteps 124 = .ok (.iload_n 2, 1) := by decide +kernel
theorem dX1_countSteps_125 : decode cX1_countSteps 125 = .ok (.invokestatic 53, 3) := by decide +kernel
theorem dX1_countSteps_128 : decode cX1_countSteps 128 = .ok (.putfield 81, 3) := by decide +kernel
theorem dX1_countSteps_131 : decode cX1_countSteps 131 = .ok (.aload_n 0, 1) := by decide +kernel
theorem dX1_countSteps_132 : decode cX1_countSteps 132 = .ok (.iload_n 1, 1) := by decide +kernel
theorem dX1_countSteps_133 : decode cX1_countSteps 133 = .ok (.aload_n 0, 1) := by decide +kernel
theorem dX1_countSteps_134 : decode cX1_countSteps 134 = .ok (.getfield 59, 3) := by decide +kernel
theorem dX1_countSteps_137 : decode cX1_countSteps 137 = .ok (.if_icmp .ne 7, 3) := by decide +kernel
theorem dX1_countSteps_140 : decode cX1_countSteps 140 = .ok (.iload_n 3, 1) := by decide +kernel
theorem dX1_countSteps_141 : decode cX1_countSteps 141 = .ok (.goto 11, 3) := by decide +kernel
theorem dX1_countSteps_144 : decode cX1_countSteps 144 = .ok (.aload_n 0, 1) := by decide +kernel
theorem dX1_countSteps_145 : decode cX1_countSteps 145 = .ok (.getfield 84, 3) := by decide +kernel
theorem dX1_countSteps_148 : decode cX1_countSteps 148 = .ok (.iload_n 3, 1) := by decide +kernel
theorem dX1_countSteps_149 : decode cX1_countSteps 149 = .ok (.invokestatic 62, 3) := by decide +kernel
theorem dX1_countSteps_152 : decode cX1_countSteps 152 = .ok (.putfield 84, 3) := by decide +kernel
theorem dX1_countSteps_155 : decode cX1_countSteps 155 = .ok (.iinc 1 1, 3) := by decide +kernel
theorem dX1_countSteps_158 : decode cX1_countSteps 158 = .ok (.goto (-153), 3) := by decide +kernel
theorem dX1_countSteps_161 : decode cX1_countSteps 161 = .ok (.return_, 1) := by decide +kernel
theorem dX1_hasMainPart_0 : decode cX1_hasMainPart 0 = .ok (.aload_n 0, 1) := by decide +kernel
theorem dX1_hasMainPart_1 : decode cX1_hasMainPart 1 = .ok (.getfield 81, 3) := by decide +kernel
theorem dX1_hasMainPart_4 : decode cX1_hasMainPart 4 = .ok (.aload_n 0, 1) := by decide +kernel
theorem dX1_hasMainPart_5 : decode cX1_hasMainPart 5 = .ok (.getfield 84, 3) := by decide +kernel
theorem dX1_hasMainPart_8 : decode cX1_hasMainPart 8 = .ok (.if_icmp .gt 7, 3) := by decide +kernel
theorem dX1_hasMainPart_11 : decode cX1_hasMainPart 11 = .ok (.iconst 1, 1) := by decide +kernel
theorem dX1_hasMainPart_12 : decode cX1_hasMainPart 12 = .ok (.goto 4, 3) := by decide +kernel
theorem dX1_hasMainPart_15 : decode cX1_hasMainPart 15 = .ok (.iconst 0, 1) := by decide +kernel
theorem dX1_hasMainPart_16 : decode cX1_hasMainPart 16 = .ok (.ireturn, 1) := by decide +kernel
theorem dX1_longest_0 : decode cX1_longest 0 = .ok (.aload_n 0, 1) := by decide +kernel
theorem dX1_longest_1 : decode cX1_longest 1 = .ok (.iload_n 1, 1) := by decide +kernel
theorem dX1_longest_2 : decode cX1_longest 2 = .ok (.aload_n 0, 1) := by decide +kernel
theorem dX1_longest_3 : decode cX1_longest 3 = .ok (.getfield 24, 3) := by decide +kernel
theorem dX1_longest_6 : decode cX1_longest 6 = .ok (.getfield 37, 3) := by decide +kernel
theorem dX1_longest_9 : decode cX1_longest 9 = .ok (.iconst 1, 1) := by decide +kernel
theorem dX1_longest_10 : decode cX1_longest 10 = .ok (.isub, 1) := by decide +kernel
theorem dX1_longest_11 : decode cX1_longest 11 = .ok (.invokevirtual 87, 3) := by decide +kernel
theorem dX1_longest_14 : decode cX1_longest 14 = .ok (.iconst 1, 1) := by decide +kernel
theorem dX1_longest_15 : decode cX1_longest 15 = .ok (.istore_n 2, 1) := by decide +kernel
theorem dX1_longest_16 : decode cX1_longest 16 = .ok (.aload_n 0, 1) := by decide +kernel
theorem dX1_longest_17 : decode cX1_longest 17 = .ok (.getfield 59, 3) := by decide +kernel
theorem dX1_longest_20 : decode cX1_longest 20 = .ok (.iconst 1, 1) := by decide +kernel
theorem dX1_longest_21 : decode cX1_longest 21 = .ok (.iadd, 1) := by decide +kernel
theorem dX1_longest_22 : decode cX1_longest 22 = .ok (.istore_n 3, 1) := by decide +kernel
theorem dX1_longest_23 : decode cX1_longest 23 = .ok (.iload_n 3, 1) := by decide +kernel
theorem dX1_longest_24 : decode cX1_longest 24 = .ok (.aload_n 0, 1) := by decide +kernel
theorem dX1_longest_25 : decode cX1_longest 25 = .ok (.getfield 65, 3) := by decide +kernel
theorem dX1_longest_28 : decode cX1_longest 28 = .ok (.if_icmp .gt 53, 3) := by decide +kernel
theorem dX1_longest_31 : decode cX1_longest 31 = .ok (.iload_n 3, 1) := by decide +kernel
theorem dX1_longest_32 : decode cX1_longest 32 = .ok (.bipush 6, 2) := by decide +kernel
theorem dX1_longest_34 : decode cX1_longest 34 = .ok (.if_icmp .ge 47, 3) := by decide +kernel
theorem dX1_longest_37 : decode cX1_longest 37 = .ok (.aload_n 0, 1) := by decide +kernel
theorem dX1_longest_38 : decode cX1_longest 38 = .ok (.getfield 24, 3) := by decide +kernel
theorem dX1_longest_41 : decode cX1_longest 41 = .ok (.getfield 40, 3) := by decide +kernel
theorem dX1_longest_44 : decode cX1_longest 44 = .ok (.iload_n 3, 1) := by decide +kernel
theorem dX1_longest_45 : decode cX1_longest 45 = .ok (.aaload, 1) := by decide +kernel
theorem dX1_longest_46 : decode cX1_longest 46 = .ok (.getfield 91, 3) := by decide +kernel
theorem dX1_longest_49 : decode cX1_longest 49 = .ok (.ifCond .ne 21, 3) := by decide +kernel
theorem dX1_longest_52 : decode cX1_longest 52 = .ok (.aload_n 0, 1) := by decide +kernel
theorem dX1_longest_53 : decode cX1_longest 53 = .ok (.getfield 9, 3) := by decide +kernel
theorem dX1_longest_56 : decode cX1_longest 56 = .ok (.iload_n 3, 1) := by decide +kernel
theorem dX1_longest_57 : decode cX1_longest 57 = .ok (.iaload, 1) := by decide +kernel
theorem dX1_longest_58 : decode cX1_longest 58 = .ok (.aload_n 0, 1) := by decide +kernel
theorem dX1_longest_59 : decode cX1_longest 59 = .ok (.getfield 24, 3) := by decide +kernel
theorem dX1_longest_62 : decode cX1_longest 62 = .ok (.getfield 95, 3) := by decide +kernel
theorem dX1_longest_65 : decode cX1_longest 65 = .ok (.iconst 0, 1) := by decide +kernel
theorem dX1_longest_66 : decode cX1_longest 66 = .ok (.iaload, 1) := by decide +kernel
theorem dX1_longest_67 : decode cX1_longest 67 = .ok (.if_icmp .le 5, 3) := by decide +kernel
theorem dX1_longest_70 : decode cX1_longest 70 = .ok (.iload_n 2, 1) := by decide +kernel
theorem dX1_longest_71 : decode cX1_longest 71 = .ok (.ireturn, 1) := by decide +kernel
theorem dX1_longest_72 : decode cX1_longest 72 = .ok (.iinc 2 1, 3) := by decide +kernel
theorem dX1_longest_75 : decode cX1_longest 75 = .ok (.iinc 3 1, 3) := by decide +kernel
theorem dX1_longest_78 : decode cX1_longest 78 = .ok (.goto (-55), 3) := by decide +kernel
theorem dX1_longest_81 : decode cX1_longest 81 = .ok (.iload_n 2, 1) := by decide +kernel
theorem dX1_longest_82 : decode cX1_longest 82 = .ok (.ireturn, 1) := by decide +kernel
theorem dX1_perform_0 : decode cX1_perform 0 = .ok (.aload_n 0, 1) := by decide +kernel
theorem dX1_perform_1 : decode cX1_perform 1 = .ok (.getfield 75, 3) := by decide +kernel
theorem dX1_perform_4 : decode cX1_perform 4 = .ok (.istore_n 2, 1) := by decide +kernel
theorem dX1_perform_5 : decode cX1_perform 5 = .ok (.iload_n 2, 1) := by decide +kernel
theorem dX1_perform_6 : decode cX1_perform 6 = .ok (.aload_n 0, 1) := by decide +kernel
theorem dX1_perform_7 : decode cX1_perform 7 = .ok (.getfield 78, 3) := by decide +kernel
theorem dX1_perform_10 : decode cX1_perform 10 = .ok (.if_icmp .gt 79, 3) := by decide +kernel
theorem dX1_perform_13 : decode cX1_perform 13 = .ok (.aload_n 0, 1) := by decide +kernel
theorem dX1_perform_14 : decode cX1_perform 14 = .ok (.getfield 59, 3) := by decide +kernel
theorem dX1_perform_17 : decode cX1_perform 17 = .ok (.istore_n 3, 1) := by decide +kernel
theorem dX1_perform_18 : decode cX1_perform 18 = .ok (.iload_n 3, 1) := by decide +kernel
theorem dX1_perform_19 : decode cX1_perform 19 = .ok (.aload_n 0, 1) := by decide +kernel
theorem dX1_perform_20 : decode cX1_perform 20 = .ok (.getfield 65, 3) := by decide +kernel
theorem dX1_perform_23 : decode cX1_perform 23 = .ok (.if_icmp .gt 60, 3) := by decide +kernel
theorem dX1_perform_26 : decode cX1_perform 26 = .ok (.iload_n 3, 1) := by decide +kernel
theorem dX1_perform_27 : decode cX1_perform 27 = .ok (.bipush 6, 2) := by decide +kernel
theorem dX1_perform_29 : decode cX1_perform 29 = .ok (.if_icmp .ge 54, 3) := by decide +kernel
theorem dX1_perform_32 : decode cX1_perform 32 = .ok (.aload_n 0, 1) := by decide +kernel
theorem dX1_perform_33 : decode cX1_perform 33 = .ok (.getfield 24, 3) := by decide +kernel
theorem dX1_perform_36 : decode cX1_perform 36 = .ok (.getfield 40, 3) := by decide +kernel
theorem dX1_perform_39 : decode cX1_perform 39 = .ok (.iload_n 3, 1) := by decide +kernel
theorem dX1_perform_40 : decode cX1_perform 40 = .ok (.aaload, 1) := by decide +kernel
theorem dX1_perform_41 : decode cX1_perform 41 = .ok (.astore 4, 2) := by decide +kernel
theorem dX1_perform_43 : decode cX1_perform 43 = .ok (.iload_n 2, 1) := by decide +kernel
theorem dX1_perform_44 : decode cX1_perform 44 = .ok (.aload_n 0, 1) := by decide +kernel
theorem dX1_perform_45 : decode cX1_perform 45 = .ok (.getfield 9, 3) := by decide +kernel
theorem dX1_perform_48 : decode cX1_perform 48 = .ok (.iload_n 3, 1) := by decide +kernel
theorem dX1_perform_49 : decode cX1_perform 49 = .ok (.iaload, 1) := by decide +kernel
theorem dX1_perform_50 : decode cX1_perform 50 = .ok (.isub, 1) := by decide +kernel
theorem dX1_perform_51 : decode cX1_perform 51 = .ok (.istore 5, 2) := by decide +kernel
theorem dX1_perform_53 : decode cX1_perform 53 = .ok (.aload 4, 2) := by decide +kernel
theorem dX1_perform_55 : decode cX1_perform 55 = .ok (.iload 5, 2) := by decide +kernel
theorem dX1_perform_57 : decode cX1_perform 57 = .ok (.invokevirtual 98, 3) := by decide +kernel
theorem dX1_perform_60 : decode cX1_perform 60 = .ok (.ifCond .eq 17, 3) := by decide +kernel
theorem dX1_perform_63 : decode cX1_perform 63 = .ok (.aload_n 1, 1) := by decide +kernel
theorem dX1_perform_64 : decode cX1_perform 64 = .ok (.iload_n 2, 1) := by decide +kernel
theorem dX1_perform_65 : decode cX1_perform 65 = .ok (.aload 4, 2) := by decide +kernel
theorem dX1_perform_67 : decode cX1_perform 67 = .ok (.getfield 102, 3) := by decide +kernel
theorem dX1_perform_70 : decode cX1_perform 70 = .ok (.iload 5, 2) := by decide +kernel
theorem dX1_perform_72 : decode cX1_perform 72 = .ok (.invokeinterface 106 4, 5) := by decide +kernel
theorem dX1_perform_77 : decode cX1_perform 77 = .ok (.iinc 3 1, 3) := by decide +kernel
theorem dX1_perform_80 : decode cX1_perform 80 = .ok (.goto (-62), 3) := by decide +kernel
theorem dX1_perform_83 : decode cX1_perform 83 = .ok (.iinc 2 1, 3) := by decide +kernel
theorem dX1_perform_86 : decode cX1_perform 86 = .ok (.goto (-81), 3) := by decide +kernel
theorem dX1_perform_89 : decode cX1_perform 89 = .ok (.return_, 1) := by decide +kernel
theorem dX1_carriedDistance_0 : decode cX1_carriedDistance 0 = .ok (.iconst 0, 1) := by decide +kernel
theorem dX1_carriedDistance_1 : decode cX1_carriedDistance 1 = .ok (.istore_n 1, 1) := by decide +kernel
theorem dX1_carriedDistance_2 : decode cX1_carriedDistance 2 = .ok (.aload_n 0, 1) := by decide +kernel
theorem dX1_carriedDistance_3 : decode cX1_carriedDistance 3 = .ok (.getfield 59, 3) := by decide +kernel
theorem dX1_carriedDistance_6 : decode cX1_carriedDistance 6 = .ok (.istore_n 2, 1) := by decide +kernel
theorem dX1_carriedDistance_7 : decode cX1_carriedDistance 7 = .ok (.iload_n 2, 1) := by decide +kernel
theorem dX1_carriedDistance_8 : decode cX1_carriedDistance 8 = .ok (.aload_n 0, 1) := by decide +kernel
theorem dX1_carriedDistance_9 : decode cX1_carriedDistance 9 = .ok (.getfield 65, 3) := by decide +kernel
theorem dX1_carriedDistance_12 : decode cX1_carriedDistance 12 = .ok (.if_icmp .gt 130, 3) := by decide +kernel
theorem dX1_carriedDistance_15 : decode cX1_carriedDistance 15 = .ok (.iload_n 2, 1) := by decide +kernel
theorem dX1_carriedDistance_16 : decode cX1_carriedDistance 16 = .ok (.bipush 6, 2) := by decide +kernel
theorem dX1_carriedDistance_18 : decode cX1_carriedDistance 18 = .ok (.if_icmp .ge 124, 3) := by decide +kernel
theorem dX1_carriedDistance_21 : decode cX1_carriedDistance 21 = .ok (.aload_n 0, 1) := by decide +kernel
theorem dX1_carriedDistance_22 : decode cX1_carriedDistance 22 = .ok (.getfield 59, 3) := by decide +kernel
theorem dX1_carriedDistance_25 : decode cX1_carriedDistance 25 = .ok (.istore_n 3, 1) := by decide +kernel
theorem dX1_carriedDistance_26 : decode cX1_carriedDistance 26 = .ok (.iload_n 3, 1) := by decide +kernel
theorem dX1_carriedDistance_27 : decode cX1_carriedDistance 27 = .ok (.aload_n 0, 1) := by decide +kernel
theorem dX1_carriedDistance_28 : decode cX1_carriedDistance 28 = .ok (.getfield 65, 3) := by decide +kernel
theorem dX1_carriedDistance_31 : decode cX1_carriedDistance 31 = .ok (.if_icmp .gt 105, 3) := by decide +kernel
theorem dX1_carriedDistance_34 : decode cX1_carriedDistance 34 = .ok (.iload_n 3, 1) := by decide +kernel
theorem dX1_carriedDistance_35 : decode cX1_carriedDistance 35 = .ok (.bipush 6, 2) := by decide +kernel
theorem dX1_carriedDistance_37 : decode cX1_carriedDistance 37 = .ok (.if_icmp .ge 99, 3) := by decide +kernel
theorem dX1_carriedDistance_40 : decode cX1_carriedDistance 40 = .ok (.aload_n 0, 1) := by decide +kernel
theorem dX1_carriedDistance_41 : decode cX1_carriedDistance 41 = .ok (.getfield 28, 3) := by decide +kernel
theorem dX1_carriedDistance_44 : decode cX1_carriedDistance 44 = .ok (.aload_n 0, 1) := by decide +kernel
theorem dX1_carriedDistance_45 : decode cX1_carriedDistance 45 = .ok (.getfield 24, 3) := by decide +kernel
theorem dX1_carriedDistance_48 : decode cX1_carriedDistance 48 = .ok (.getfield 40, 3) := by decide +kernel
theorem dX1_carriedDistance_51 : decode cX1_carriedDistance 51 = .ok (.iload_n 2, 1) := by decide +kernel
theorem dX1_carriedDistance_52 : decode cX1_carriedDistance 52 = .ok (.aaload, 1) := by decide +kernel
theorem dX1_carriedDistance_53 : decode cX1_carriedDistance 53 = .ok (.aload_n 0, 1) := by decide +kernel
theorem dX1_carriedDistance_54 : decode cX1_carriedDistance 54 = .ok (.getfield 24, 3) := by decide +kernel
theorem dX1_carriedDistance_57 : decode cX1_carriedDistance 57 = .ok (.getfield 40, 3) := by decide +kernel
theorem dX1_carriedDistance_60 : decode cX1_carriedDistance 60 = .ok (.iload_n 3, 1) := by decide +kernel
theorem dX1_carriedDistance_61 : decode cX1_carriedDistance 61 = .ok (.aaload, 1) := by decide +kernel
theorem dX1_carriedDistance_62 : decode cX1_carriedDistance 62 = .ok (.invokevirtual 44, 3) := by decide +kernel
theorem dX1_carriedDistance_65 : decode cX1_carriedDistance 65 = .ok (.iconst 0, 1) := by decide +kernel
theorem dX1_carriedDistance_66 : decode cX1_carriedDistance 66 = .ok (.istore 4, 2) := by decide +kernel
theorem dX1_carriedDistance_68 : decode cX1_carriedDistance 68 = .ok (.iload 4, 2) := by decide +kernel
theorem dX1_carriedDistance_70 : decode cX1_carriedDistance 70 = .ok (.aload_n 0, 1) := by decide +kernel
theorem dX1_carriedDistance_71 : decode cX1_carriedDistance 71 = .ok (.getfield 28, 3) := by decide +kernel
theorem dX1_carriedDistance_74 : decode cX1_carriedDistance 74 = .ok (.getfield 112, 3) := by decide +kernel
theorem dX1_carriedDistance_77 : decode cX1_carriedDistance 77 = .ok (.if_icmp .ge 53, 3) := by decide +kernel
theorem dX1_carriedDistance_80 : decode cX1_carriedDistance 80 = .ok (.aload_n 0, 1) := by decide +kernel
theorem dX1_carriedDistance_81 : decode cX1_carriedDistance 81 = .ok (.getfield 9, 3) := by decide +kernel
theorem dX1_carriedDistance_84 : decode cX1_carriedDistance 84 = .ok (.iload_n 3, 1) := by decide +kernel
theorem dX1_carriedDistance_85 : decode cX1_carriedDistance 85 = .ok (.iaload, 1) := by decide +kernel
theorem dX1_carriedDistance_86 : decode cX1_carriedDistance 86 = .ok (.aload_n 0, 1) := by decide +kernel
theorem dX1_carriedDistance_87 : decode cX1_carriedDistance 87 = .ok (.getfield 9, 3) := by decide +kernel
theorem dX1_carriedDistance_90 : decode cX1_carriedDistance 90 = .ok (.iload_n 2, 1) := by decide +kernel
theorem dX1_carriedDistance_91 : decode cX1_carriedDistance 91 = .ok (.iaload, 1) := by decide +kernel
theorem dX1_carriedDistance_92 : decode cX1_carriedDistance 92 = .ok (.isub, 1) := by decide +kernel
theorem dX1_carriedDistance_93 : decode cX1_carriedDistance 93 = .ok (.aload_n 0, 1) := by decide +kernel
theorem dX1_carriedDistance_94 : decode cX1_carriedDistance 94 = .ok (.getfield 28, 3) := by decide +kernel
theorem dX1_carriedDistance_97 : decode cX1_carriedDistance 97 = .ok (.getfield 113, 3) := by decide +kernel
theorem dX1_carriedDistance_100 : decode cX1_carriedDistance 100 = .ok (.iload 4, 2) := by decide +kernel
theorem dX1_carriedDistance_102 : decode cX1_carriedDistance 102 = .ok (.iaload, 1) := by decide +kernel
theorem dX1_carriedDistance_103 : decode cX1_carriedDistance 103 = .ok (.isub, 1) := by decide +kernel
theorem dX1_carriedDistance_104 : decode cX1_carriedDistance 104 = .ok (.istore 5, 2) := by decide +kernel
theorem dX1_carriedDistance_106 : decode cX1_carriedDistance 106 = .ok (.iload 5, 2) := by decide +kernel
theorem dX1_carriedDistance_108 : decode cX1_carriedDistance 108 = .ok (.ifCond .le 16, 3) := by decide +kernel
theorem dX1_carriedDistance_111 : decode cX1_carriedDistance 111 = .ok (.iload_n 1, 1) := by decide +kernel
theorem dX1_carriedDistance_112 : decode cX1_carriedDistance 112 = .ok (.ifCond .eq 9, 3) := by decide +kernel
theorem dX1_carriedDistance_115 : decode cX1_carriedDistance 115 = .ok (.iload 5, 2) := by decide +kernel
theorem dX1_carriedDistance_117 : decode cX1_carriedDistance 117 = .ok (.iload_n 1, 1) := by decide +kernel
theorem dX1_carriedDistance_118 : decode cX1_carriedDistance 118 = .ok (.if_icmp .ge 6, 3) := by decide +kernel
theorem dX1_carriedDistance_121 : decode cX1_carriedDistance 121 = .ok (.iload 5, 2) := by decide +kernel
theorem dX1_carriedDistance_123 : decode cX1_carriedDistance 123 = .ok (.istore_n 1, 1) := by decide +kernel
theorem dX1_carriedDistance_124 : decode cX1_carriedDistance 124 = .ok (.iinc 4 1, 3) := by decide +kernel
theorem dX1_carriedDistance_127 : decode cX1_carriedDistance 127 = .ok (.goto (-59), 3) := by decide +kernel
theorem dX1_carriedDistance_130 : decode cX1_carriedDistance 130 = .ok (.iinc 3 1, 3) := by decide +kernel
theorem dX1_carriedDistance_133 : decode cX1_carriedDistance 133 = .ok (.goto (-107), 3) := by decide +kernel
theorem dX1_carriedDistance_136 : decode cX1_carriedDistance 136 = .ok (.iinc 2 1, 3) := by decide +kernel
theorem dX1_carriedDistance_139 : decode cX1_carriedDistance 139 = .ok (.goto (-132), 3) := by decide +kernel
theorem dX1_carriedDistance_142 : decode cX1_carriedDistance 142 = .ok (.iload_n 1, 1) := by decide +kernel
theorem dX1_carriedDistance_143 : decode cX1_carriedDistance 143 = .ok (.ireturn, 1) := by decide +kernel
theorem dX2_init_0 : decode cX2_init 0 = .ok (.aload_n 0, 1) := by decide +kernel
theorem dX2_init_1 : decode cX2_init 1 = .ok (.invokespecial 3, 3) := by decide +kernel
theorem dX2_init_4 : decode cX2_init 4 = .ok (.aload_n 0, 1) := by decide +kernel
theorem dX2_init_5 : decode cX2_init 5 = .ok (.sipush 576, 3) := by decide +kernel
theorem dX2_init_8 : decode cX2_init 8 = .ok (.newarray .int, 2) := by decide +kernel
theorem dX2_init_10 : decode cX2_init 10 = .ok (.putfield 9, 3) := by decide +kernel
theorem dX2_init_13 : decode cX2_init 13 = .ok (.aload_n 0, 1) := by decide +kernel
theorem dX2_init_14 : decode cX2_init 14 = .ok (.sipush 576, 3) := by decide +kernel
theorem dX2_init_17 : decode cX2_init 17 = .ok (.newarray .int, 2) := by decide +kernel
theorem dX2_init_19 : decode cX2_init 19 = .ok (.putfield 15, 3) := by decide +kernel
theorem dX2_init_22 : decode cX2_init 22 = .ok (.aload_n 0, 1) := by decide +kernel
theorem dX2_init_23 : decode cX2_init 23 = .ok (.sipush 576, 3) := by decide +kernel
theorem dX2_init_26 : decode cX2_init 26 = .ok (.newarray .int, 2) := by decide +kernel
theorem dX2_init_28 : decode cX2_init 28 = .ok (.putfield 18, 3) := by decide +kernel
theorem dX2_init_31 : decode cX2_init 31 = .ok (.return_, 1) := by decide +kernel
theorem dX2_collect_0 : decode cX2_collect 0 = .ok (.aload_n 0, 1) := by decide +kernel
theorem dX2_collect_1 : decode cX2_collect 1 = .ok (.iconst 0, 1) := by decide +kernel
theorem dX2_collect_2 : decode cX2_collect 2 = .ok (.putfield 21, 3) := by decide +kernel
theorem dX2_collect_5 : decode cX2_collect 5 = .ok (.aload_n 0, 1) := by decide +kernel
theorem dX2_collect_6 : decode cX2_collect 6 = .ok (.sipush (-1000), 3) := by decide +kernel
theorem dX2_collect_9 : decode cX2_collect 9 = .ok (.putfield 25, 3) := by decide +kernel
theorem dX2_collect_12 : decode cX2_collect 12 = .ok (.iconst 0, 1) := by decide +kernel
theorem dX2_collect_13 : decode cX2_collect 13 = .ok (.istore_n 3, 1) := by decide +kernel
theorem dX2_collect_14 : decode cX2_collect 14 = .ok (.iload_n 3, 1) := by decide +kernel
theorem dX2_collect_15 : decode cX2_collect 15 = .ok (.aload_n 1, 1) := by decide +kernel
theorem dX2_collect_16 : decode cX2_collect 16 = .ok (.getfield 28, 3) := by decide +kernel
theorem dX2_collect_19 : decode cX2_collect 19 = .ok (.getfield 34, 3) := by decide +kernel
theorem dX2_collect_22 : decode cX2_collect 22 = .ok (.if_icmp .ge 149, 3) := by decide +kernel
theorem dX2_collect_25 : decode cX2_collect 25 = .ok (.iload_n 3, 1) := by decide +kernel
theorem dX2_collect_26 : decode cX2_collect 26 = .ok (.bipush 24, 2) := by decide +kernel
theorem dX2_collect_28 : decode cX2_collect 28 = .ok (.if_icmp .ge 143, 3) := by decide +kernel
theorem dX2_collect_31 : decode cX2_collect 31 = .ok (.iconst 0, 1) := by decide +kernel
theorem dX2_collect_32 : decode cX2_collect 32 = .ok (.istore 4, 2) := by decide +kernel
theorem dX2_collect_34 : decode cX2_collect 34 = .ok (.iload 4, 2) := by decide +kernel
theorem dX2_collect_36 : decode cX2_collect 36 = .ok (.aload_n 2, 1) := by decide +kernel
theorem dX2_collect_37 : decode cX2_collect 37 = .ok (.getfield 28, 3) := by decide +kernel
theorem dX2_collect_40 : decode cX2_collect 40 = .ok (.getfield 34, 3) := by decide +kernel
theorem dX2_collect_43 : decode cX2_collect 43 = .ok (.if_icmp .ge 122, 3) := by decide +kernel
theorem dX2_collect_46 : decode cX2_collect 46 = .ok (.iload 4, 2) := by decide +kernel
theorem dX2_collect_48 : decode cX2_collect 48 = .ok (.bipush 24, 2) := by decide +kernel
theorem dX2_collect_50 : decode cX2_collect 50 = .ok (.if_icmp .ge 115, 3) := by decide +kernel
theorem dX2_collect_53 : decode cX2_collect 53 = .ok (.aload_n 1, 1) := by decide +kernel
theorem dX2_collect_54 : decode cX2_collect 54 = .ok (.getfield 28, 3) := by decide +kernel
theorem dX2_collect_57 : decode cX2_collect 57 = .ok (.getfield 39, 3) := by decide +kernel
theorem dX2_collect_60 : decode cX2_collect 60 = .ok (.iload_n 3, 1) := by decide +kernel
theorem dX2_collect_61 : decode cX2_collect 61 = .ok (.baload, 1) := by decide +kernel
theorem dX2_collect_62 : decode cX2_collect 62 = .ok (.istore 5, 2) := by decide +kernel
theorem dX2_collect_64 : decode cX2_collect 64 = .ok (.aload_n 2, 1) := by decide +kernel
theorem dX2_collect_65 : decode cX2_collect 65 = .ok (.getfield 28, 3) := by decide +kernel
theorem dX2_collect_68 : decode cX2_collect 68 = .ok (.getfield 39, 3) := by decide +kernel
theorem dX2_collect_71 : decode cX2_collect 71 = .ok (.iload 4, 2) := by decide +kernel
theorem dX2_collect_73 : decode cX2_collect 73 = .ok (.baload, 1) := by decide +kernel
theorem dX2_collect_74 : decode cX2_collect 74 = .ok (.istore 6, 2) := by decide +kernel
theorem dX2_collect_76 : decode cX2_collect 76 = .ok (.iload 5, 2) := by decide +kernel
theorem dX2_collect_78 : decode cX2_collect 78 = .ok (.ifCond .ne 8, 3) := by decide +kernel
theorem dX2_collect_81 : decode cX2_collect 81 = .ok (.iload 6, 2) := by decide +kernel
theorem dX2_collect_83 : decode cX2_collect 83 = .ok (.ifCond .eq 76, 3) := by decide +kernel
theorem dX2_collect_86 : decode cX2_collect 86 = .ok (.aload_n 1, 1) := by decide +kernel
theorem dX2_collect_87 : decode cX2_collect 87 = .ok (.aload_n 1, 1) := by decide +kernel
theorem dX2_collect_88 : decode cX2_collect 88 = .ok (.getfield 28, 3) := by decide +kernel
theorem dX2_collect_91 : decode cX2_collect 91 = .ok (.getfield 43, 3) := by decide +kernel
theorem dX2_collect_94 : decode cX2_collect 94 = .ok (.iload_n 3, 1) := by decide +kernel
theorem dX2_collect_95 : decode cX2_collect 95 = .ok (.iaload, 1) := by decide +kernel
theorem dX2_collect_96 : decode cX2_collect 96 = .ok (.aload_n 2, 1) := by decide +kernel
theorem dX2_collect_97 : decode cX2_collect 97 = .ok (.aload_n 2, 1) := by decide +kernel
theorem dX2_collect_98 : decode cX2_collect 98 = .ok (.getfield 28, 3) := by decide +kernel
theorem dX2_collect_101 : decode cX2_collect 101 = .ok (.getfield 43, 3) := by decide +kernel
theorem dX2_collect_104 : decode cX2_collect 104 = .ok (.iload 4, 2) := by decide +kernel
theorem dX2_collect_106 : decode cX2_collect 106 = .ok (.iaload, 1) := by decide +kernel
theorem dX2_collect_107 : decode cX2_collect 107 = .ok (.invokestatic 46, 3) := by decide +kernel
theorem dX2_collect_110 : decode cX2_collect 110 = .ok (.ifCond .eq 49, 3) := by decide +kernel
theorem dX2_collect_113 : decode cX2_collect 113 = .ok (.iload 5, 2) := by decide +kernel
theorem dX2_collect_115 : decode cX2_collect 115 = .ok (.ifCond .ne 7, 3) := by decide +kernel
theorem dX2_collect_118 : decode cX2_collect 118 = .ok (.iconst 1, 1) := by decide +kernel
theorem dX2_collect_119 : decode cX2_collect 119 = .ok (.goto 13, 3) := by decide +kernel
theorem dX2_collect_122 : decode cX2_collect 122 = .ok (.iload 6, 2) := by decide +kernel
theorem dX2_collect_124 : decode cX2_collect 124 = .ok (.ifCond .eq 7, 3) := by decide +kernel
theorem dX2_collect_127 : decode cX2_collect 127 = .ok (.iconst 2, 1) := by decide +kernel
theorem dX2_collect_128 : decode cX2_collect 128 = .ok (.goto 4, 3) := by decide +kernel
theorem dX2_collect_131 : decode cX2_collect 131 = .ok (.iconst 0, 1) := by decide +kernel
theorem dX2_collect_132 : decode cX2_collect 132 = .ok (.istore 7, 2) := by decide +kernel
theorem dX2_collect_134 : decode cX2_collect 134 = .ok (.aload_n 0, 1) := by decide +kernel
theorem dX2_collect_135 : decode cX2_collect 135 = .ok (.iload 7, 2) := by decide +kernel
theorem dX2_collect_137 : decode cX2_collect 137 = .ok (.aload_n 1, 1) := by decide +kernel
theorem dX2_collect_138 : decode cX2_collect 138 = .ok (.getfield 28, 3) := by decide +kernel
theorem dX2_collect_141 : decode cX2_collect 141 = .ok (.getfield 43, 3) := by decide +kernel
theorem dX2_collect_144 : decode cX2_collect 144 = .ok (.iload_n 3, 1) := by decide +kernel
theorem dX2_collect_145 : decode cX2_collect 145 = .ok (.iaload, 1) := by decide +kernel
theorem dX2_collect_146 : decode cX2_collect 146 = .ok (.aload_n 2, 1) := by decide +kernel
theorem dX2_collect_147 : decode cX2_collect 147 = .ok (.getfield 28, 3) := by decide +kernel
theorem dX2_collect_150 : decode cX2_collect 150 = .ok (.getfield 43, 3) := by decide +kernel
theorem dX2_collect_153 : decode cX2_collect 153 = .ok (.iload 4, 2) := by decide +kernel
theorem dX2_collect_155 : decode cX2_collect 155 = .ok (.iaload, 1) := by decide +kernel
theorem dX2_collect_156 : decode cX2_collect 156 = .ok (.invokevirtual 50, 3) := by decide +kernel
theorem dX2_collect_159 : decode cX2_collect 159 = .ok (.iinc 4 1, 3) := by decide +kernel
theorem dX2_collect_162 : decode cX2_collect 162 = .ok (.goto (-128), 3) := by decide +kernel
theorem dX2_collect_165 : decode cX2_collect 165 = .ok (.iinc 3 1, 3) := by decide +kernel
theorem dX2_collect_168 : decode cX2_collect 168 = .ok (.goto (-154), 3) := by decide +kernel
theorem dX2_collect_171 : decode cX2_collect 171 = .ok (.return_, 1) := by decide +kernel
theorem dX2_meet_0 : decode cX2_meet 0 = .ok (.iload_n 1, 1) := by decide +kernel
theorem dX2_meet_1 : decode cX2_meet 1 = .ok (.bipush 49, 2) := by decide +kernel
theorem dX2_meet_3 : decode cX2_meet 3 = .ok (.idiv, 1) := by decide +kernel
theorem dX2_meet_4 : decode cX2_meet 4 = .ok (.iload_n 3, 1) := by decide +kernel
theorem dX2_meet_5 : decode cX2_meet 5 = .ok (.bipush 49, 2) := by decide +kernel
theorem dX2_meet_7 : decode cX2_meet 7 = .ok (.idiv, 1) := by decide +kernel
theorem dX2_meet_8 : decode cX2_meet 8 = .ok (.if_icmp .ne 37, 3) := by decide +kernel
theorem dX2_meet_11 : decode cX2_meet 11 = .ok (.aload_n 0, 1) := by decide +kernel
theorem dX2_meet_12 : decode cX2_meet 12 = .ok (.getfield 54, 3) := by decide +kernel
theorem dX2_meet_15 : decode cX2_meet 15 = .ok (.iload_n 1, 1) := by decide +kernel
theorem dX2_meet_16 : decode cX2_meet 16 = .ok (.iadd, 1) := by decide +kernel
theorem dX2_meet_17 : decode cX2_meet 17 = .ok (.aload_n 2, 1) := by decide +kernel
theorem dX2_meet_18 : decode cX2_meet 18 = .ok (.getfield 57, 3) := by decide +kernel
theorem dX2_meet_21 : decode cX2_meet 21 = .ok (.iload_n 3, 1) := by decide +kernel
theorem dX2_meet_22 : decode cX2_meet 22 = .ok (.iadd, 1) := by decide +kernel
theorem dX2_meet_23 : decode cX2_meet 23 = .ok (.if_icmp .gt 22, 3) := by decide +kernel
theorem dX2_meet_26 : decode cX2_meet 26 = .ok (.aload_n 2, 1) := by decide +kernel
theorem dX2_meet_27 : decode cX2_meet 27 = .ok (.getfield 54, 3) := by decide +kernel
theorem dX2_meet_30 : decode cX2_meet 30 = .ok (.iload_n 3, 1) := by decide +kernel
theorem dX2_meet_31 : decode cX2_meet 31 = .ok (.iadd, 1) := by decide +kernel
theorem dX2_meet_32 : decode cX2_meet 32 = .ok (.aload_n 0, 1) := by decide +kernel
theorem dX2_meet_33 : decode cX2_meet 33 = .ok (.getfield 57, 3) := by decide +kernel
theorem dX2_meet_36 : decode cX2_meet 36 = .ok (.iload_n 1, 1) := by decide +kernel
theorem dX2_meet_37 : decode cX2_meet 37 = .ok (.iadd, 1) := by decide +kernel
theorem dX2_meet_38 : decode cX2_meet 38 = .ok (.if_icmp .gt 7, 3) := by decide +kernel
theorem dX2_meet_41 : decode cX2_meet 41 = .ok (.iconst 1, 1) := by decide +kernel
theorem dX2_meet_42 : decode cX2_meet 42 = .ok (.goto 4, 3) := by decide +kernel
theorem dX2_meet_45 : decode cX2_meet 45 = .ok (.iconst 0, 1) := by decide +kernel
theorem dX2_meet_46 : decode cX2_meet 46 = .ok (.ireturn, 1) := by decide +kernel
theorem dX2_add_0 : decode cX2_add 0 = .ok (.aload_n 0, 1) := by decide +kernel
theorem dX2_add_1 : decode cX2_add 1 = .ok (.getfield 21, 3) := by decide +kernel
theorem dX2_add_4 : decode cX2_add 4 = .ok (.sipush 576, 3) := by decide +kernel
theorem dX2_add_7 : decode cX2_add 7 = .ok (.if_icmp .ge 68, 3) := by decide +kernel
theorem dX2_add_10 : decode cX2_add 10 = .ok (.aload_n 0, 1) := by decide +kernel
theorem dX2_add_11 : decode cX2_add 11 = .ok (.getfield 9, 3) := by decide +kernel
theorem dX2_add_14 : decode cX2_add 14 = .ok (.aload_n 0, 1) := by decide +kernel
theorem dX2_add_15 : decode cX2_add 15 = .ok (.getfield 21, 3) := by decide +kernel
theorem dX2_add_18 : decode cX2_add 18 = .ok (.iload_n 2, 1) := by decide +kernel
theorem dX2_add_19 : decode cX2_add 19 = .ok (.bipush 49, 2) := by decide +kernel
theorem dX2_add_21 : decode cX2_add 21 = .ok (.idiv, 1) := by decide +kernel
theorem dX2_add_22 : decode cX2_add 22 = .ok (.iastore, 1) := by decide +kernel
theorem dX2_add_23 : decode cX2_add 23 = .ok (.aload_n 0, 1) := by decide +kernel
theorem dX2_add_24 : decode cX2_add 24 = .ok (.getfield 15, 3) := by decide +kernel
theorem dX2_add_27 : decode cX2_add 27 = .ok (.aload_n 0, 1) := by decide +kernel
theorem dX2_add_28 : decode cX2_add 28 = .ok (.getfield 21, 3) := by decide +kernel
theorem dX2_add_31 : decode cX2_add 31 = .ok (.iload_n 1, 1) := by decide +kernel
theorem dX2_add_32 : decode cX2_add 32 = .ok (.iastore, 1) := by decide +kernel
theorem dX2_add_33 : decode cX2_add 33 = .ok (.aload_n 0, 1) := by decide +kernel
theorem dX2_add_34 : decode cX2_add 34 = .ok (.getfield 18, 3) := by decide +kernel
theorem dX2_add_37 : decode cX2_add 37 = .ok (.aload_n 0, 1) := by decide +kernel
theorem dX2_add_38 : decode cX2_add 38 = .ok (.getfield 21, 3) := by decide +kernel
theorem dX2_add_41 : decode cX2_add 41 = .ok (.iload_n 3, 1) := by decide +kernel
theorem dX2_add_42 : decode cX2_add 42 = .ok (.iload_n 2, 1) := by decide +kernel
theorem dX2_add_43 : decode cX2_add 43 = .ok (.isub, 1) := by decide +kernel
theorem dX2_add_44 : decode cX2_add 44 = .ok (.iastore, 1) := by decide +kernel
theorem dX2_add_45 : decode cX2_add 45 = .ok (.aload_n 0, 1) := by decide +kernel
theorem dX2_add_46 : decode cX2_add 46 = .ok (.aload_n 0, 1) := by decide +kernel
theorem dX2_add_47 : decode cX2_add 47 = .ok (.getfield 25, 3) := by decide +kernel
theorem dX2_add_50 : decode cX2_add 50 = .ok (.aload_n 0, 1) := by decide +kernel
theorem dX2_add_51 : decode cX2_add 51 = .ok (.getfield 18, 3) := by decide +kernel
theorem dX2_add_54 : decode cX2_add 54 = .ok (.aload_n 0, 1) := by decide +kernel
theorem dX2_add_55 : decode cX2_add 55 = .ok (.getfield 21, 3) := by decide +kernel
theorem dX2_add_58 : decode cX2_add 58 = .ok (.iaload, 1) := by decide +kernel
theorem dX2_add_59 : decode cX2_add 59 = .ok (.invokestatic 60, 3) := by decide +kernel
theorem dX2_add_62 : decode cX2_add 62 = .ok (.putfield 25, 3) := by decide +kernel
theorem dX2_add_65 : decode cX2_add 65 = .ok (.aload_n 0, 1) := by decide +kernel
theorem dX2_add_66 : decode cX2_add 66 = .ok (.dup, 1) := by decide +kernel
theorem dX2_add_67 : decode cX2_add 67 = .ok (.getfield 21, 3) := by decide +kernel
theorem dX2_add_70 : decode cX2_add 70 = .ok (.iconst 1, 1) := by decide +kernel
theorem dX2_add_71 : decode cX2_add 71 = .ok (.iadd, 1) := by decide +kernel
theorem dX2_add_72 : decode cX2_add 72 = .ok (.putfield 21, 3) := by decide +kernel
theorem dX2_add_75 : decode cX2_add 75 = .ok (.return_, 1) := by decide +kernel
theorem dX3_init_0 : decode cX3_init 0 = .ok (.aload_n 0, 1) := by decide +kernel
theorem dX3_init_1 : decode cX3_init 1 = .ok (.invokespecial 1, 3) := by decide +kernel
theorem dX3_init_4 : decode cX3_init 4 = .ok (.aload_n 0, 1) := by decide +kernel
theorem dX3_init_5 : decode cX3_init 5 = .ok (.aload_n 1, 1) := by decide +kernel
theorem dX3_init_6 : decode cX3_init 6 = .ok (.putfield 7, 3) := by decide +kernel
theorem dX3_init_9 : decode cX3_init 9 = .ok (.return_, 1) := by decide +kernel
theorem dX3_hasIteration_0 : decode cX3_hasIteration 0 = .ok (.aload_n 0, 1) := by decide +kernel
theorem dX3_hasIteration_1 : decode cX3_hasIteration 1 = .ok (.getfield 13, 3) := by decide +kernel
theorem dX3_hasIteration_4 : decode cX3_hasIteration 4 = .ok (.iload_n 1, 1) := by decide +kernel
theorem dX3_hasIteration_5 : decode cX3_hasIteration 5 = .ok (.if_icmp .gt 15, 3) := by decide +kernel
theorem dX3_hasIteration_8 : decode cX3_hasIteration 8 = .ok (.iload_n 1, 1) := by decide +kernel
theorem dX3_hasIteration_9 : decode cX3_hasIteration 9 = .ok (.aload_n 0, 1) := by decide +kernel
theorem dX3_hasIteration_10 : decode cX3_hasIteration 10 = .ok (.getfield 17, 3) := by decide +kernel
theorem dX3_hasIteration_13 : decode cX3_hasIteration 13 = .ok (.if_icmp .gt 7, 3) := by decide +kernel
theorem dX3_hasIteration_16 : decode cX3_hasIteration 16 = .ok (.iconst 1, 1) := by decide +kernel
theorem dX3_hasIteration_17 : decode cX3_hasIteration 17 = .ok (.goto 4, 3) := by decide +kernel
theorem dX3_hasIteration_20 : decode cX3_hasIteration 20 = .ok (.iconst 0, 1) := by decide +kernel
theorem dX3_hasIteration_21 : decode cX3_hasIteration 21 = .ok (.ireturn, 1) := by decide +kernel
theorem dX3_copyFrom_0 : decode cX3_copyFrom 0 = .ok (.aload_n 0, 1) := by decide +kernel
theorem dX3_copyFrom_1 : decode cX3_copyFrom 1 = .ok (.aload_n 1, 1) := by decide +kernel
theorem dX3_copyFrom_2 : decode cX3_copyFrom 2 = .ok (.getfield 7, 3) := by decide +kernel
theorem dX3_copyFrom_5 : decode cX3_copyFrom 5 = .ok (.putfield 7, 3) := by decide +kernel
theorem dX3_copyFrom_8 : decode cX3_copyFrom 8 = .ok (.aload_n 0, 1) := by decide +kernel
theorem dX3_copyFrom_9 : decode cX3_copyFrom 9 = .ok (.aload_n 1, 1) := by decide +kernel
theorem dX3_copyFrom_10 : decode cX3_copyFrom 10 = .ok (.getfield 13, 3) := by decide +kernel
theorem dX3_copyFrom_13 : decode cX3_copyFrom 13 = .ok (.putfield 13, 3) := by decide +kernel
theorem dX3_copyFrom_16 : decode cX3_copyFrom 16 = .ok (.aload_n 0, 1) := by decide +kernel
theorem dX3_copyFrom_17 : decode cX3_copyFrom 17 = .ok (.aload_n 1, 1) := by decide +kernel
theorem dX3_copyFrom_18 : decode cX3_copyFrom 18 = .ok (.getfield 17, 3) := by decide +kernel
theorem dX3_copyFrom_21 : decode cX3_copyFrom 21 = .ok (.putfield 17, 3) := by decide +kernel
theorem dX3_copyFrom_24 : decode cX3_copyFrom 24 = .ok (.aload_n 0, 1) := by decide +kernel
theorem dX3_copyFrom_25 : decode cX3_copyFrom 25 = .ok (.aload_n 1, 1) := by decide +kernel
theorem dX3_copyFrom_26 : decode cX3_copyFrom 26 = .ok (.getfield 20, 3) := by decide +kernel
theorem dX3_copyFrom_29 : decode cX3_copyFrom 29 = .ok (.putfield 20, 3) := by decide +kernel
theorem dX3_copyFrom_32 : decode cX3_copyFrom 32 = .ok (.return_, 1) := by decide +kernel
theorem dX4_init_0 : decode cX4_init 0 = .ok (.aload_n 0, 1) := by decide +kernel
theorem dX4_init_1 : decode cX4_init 1 = .ok (.invokespecial 3, 3) := by decide +kernel
theorem dX4_init_4 : decode cX4_init 4 = .ok (.aload_n 0, 1) := by decide +kernel
theorem dX4_init_5 : decode cX4_init 5 = .ok (.sipush 245, 3) := by decide +kernel
theorem dX4_init_8 : decode cX4_init 8 = .ok (.newarray .int, 2) := by decide +kernel
theorem dX4_init_10 : decode cX4_init 10 = .ok (.putfield 9, 3) := by decide +kernel
theorem dX4_init_13 : decode cX4_init 13 = .ok (.aload_n 0, 1) := by decide +kernel
theorem dX4_init_14 : decode cX4_init 14 = .ok (.bipush 9, 2) := by decide +kernel
theorem dX4_init_16 : decode cX4_init 16 = .ok (.newarray .int, 2) := by decide +kernel
theorem dX4_init_18 : decode cX4_init 18 = .ok (.putfield 15, 3) := by decide +kernel
theorem dX4_init_21 : decode cX4_init 21 = .ok (.return_, 1) := by decide +kernel
theorem dX4_begin_0 : decode cX4_begin 0 = .ok (.iconst 0, 1) := by decide +kernel
theorem dX4_begin_1 : decode cX4_begin 1 = .ok (.istore_n 2, 1) := by decide +kernel
theorem dX4_begin_2 : decode cX4_begin 2 = .ok (.iload_n 2, 1) := by decide +kernel
theorem dX4_begin_3 : decode cX4_begin 3 = .ok (.sipush 245, 3) := by decide +kernel
theorem dX4_begin_6 : decode cX4_begin 6 = .ok (.if_icmp .ge 34, 3) := by decide +kernel
theorem dX4_begin_9 : decode cX4_begin 9 = .ok (.aload_n 0, 1) := by decide +kernel
theorem dX4_begin_10 : decode cX4_begin 10 = .ok (.getfield 9, 3) := by decide +kernel
theorem dX4_begin_13 : decode cX4_begin 13 = .ok (.iload_n 2, 1) := by decide +kernel
theorem dX4_begin_14 : decode cX4_begin 14 = .ok (.iload_n 2, 1) := by decide +kernel
theorem dX4_begin_15 : decode cX4_begin 15 = .ok (.bipush 49, 2) := by decide +kernel
theorem dX4_begin_17 : decode cX4_begin 17 = .ok (.idiv, 1) := by decide +kernel
theorem dX4_begin_18 : decode cX4_begin 18 = .ok (.iconst 1, 1) := by decide +kernel
theorem dX4_begin_19 : decode cX4_begin 19 = .ok (.iadd, 1) := by decide +kernel
theorem dX4_begin_20 : decode cX4_begin 20 = .ok (.iload_n 1, 1) := by decide +kernel
theorem dX4_begin_21 : decode cX4_begin 21 = .ok (.imul, 1) := by decide +kernel
theorem dX4_begin_22 : decode cX4_begin 22 = .ok (.bipush 7, 2) := by decide +kernel
theorem dX4_begin_24 : decode cX4_begin 24 = .ok (.iload_n 2, 1) := by decide +kernel
theorem dX4_begin_25 : decode cX4_begin 25 = .ok (.bipush 49, 2) := by decide +kernel
theorem dX4_begin_27 : decode cX4_begin 27 = .ok (.irem, 1) := by decide +kernel
theorem dX4_begin_28 : decode cX4_begin 28 = .ok (.bipush (-9), 2) := by decide +kernel
theorem dX4_begin_30 : decode cX4_begin 30 = .ok (.iadd, 1) := by decide +kernel
theorem dX4_begin_31 : decode cX4_begin 31 = .ok (.imul, 1) := by decide +kernel
theorem dX4_begin_32 : decode cX4_begin 32 = .ok (.iadd, 1) := by decide +kernel
theorem dX4_begin_33 : decode cX4_begin 33 = .ok (.iastore, 1) := by decide +kernel
theorem dX4_begin_34 : decode cX4_begin 34 = .ok (.iinc 2 1, 3) := by decide +kernel
theorem dX4_begin_37 : decode cX4_begin 37 = .ok (.goto (-35), 3) := by decide +kernel
theorem dX4_begin_40 : decode cX4_begin 40 = .ok (.return_, 1) := by decide +kernel
theorem dX4_iterate_0 : decode cX4_iterate 0 = .ok (.iconst 0, 1) := by decide +kernel
theorem dX4_iterate_1 : decode cX4_iterate 1 = .ok (.istore 4, 2) := by decide +kernel
theorem dX4_iterate_3 : decode cX4_iterate 3 = .ok (.iload 4, 2) := by decide +kernel
theorem dX4_iterate_5 : decode cX4_iterate 5 = .ok (.aload_n 2, 1) := by decide +kernel
theorem dX4_iterate_6 : decode cX4_iterate 6 = .ok (.getfield 18, 3) := by decide +kernel
theorem dX4_iterate_9 : decode cX4_iterate 9 = .ok (.if_icmp .ge 65, 3) := by decide +kernel
theorem dX4_iterate_12 : decode cX4_iterate 12 = .ok (.iload 4, 2) := by decide +kernel
theorem dX4_iterate_14 : decode cX4_iterate 14 = .ok (.iconst 4, 1) := by decide +kernel
theorem dX4_iterate_15 : decode cX4_iterate 15 = .ok (.if_icmp .ge 59, 3) := by decide +kernel
theorem dX4_iterate_18 : decode cX4_iterate 18 = .ok (.aload_n 2, 1) := by decide +kernel
theorem dX4_iterate_19 : decode cX4_iterate 19 = .ok (.getfield 24, 3) := by decide +kernel
theorem dX4_iterate_22 : decode cX4_iterate 22 = .ok (.iload 4, 2) := by decide +kernel
theorem dX4_iterate_24 : decode cX4_iterate 24 = .ok (.aaload, 1) := by decide +kernel
theorem dX4_iterate_25 : decode cX4_iterate 25 = .ok (.astore 5, 2) := by decide +kernel
theorem dX4_iterate_27 : decode cX4_iterate 27 = .ok (.aload_n 0, 1) := by decide +kernel
theorem dX4_iterate_28 : decode cX4_iterate 28 = .ok (.aload_n 2, 1) := by decide +kernel
theorem dX4_iterate_29 : decode cX4_iterate 29 = .ok (.aload 5, 2) := by decide +kernel
theorem dX4_iterate_31 : decode cX4_iterate 31 = .ok (.iload_n 3, 1) := by decide +kernel
theorem dX4_iterate_32 : decode cX4_iterate 32 = .ok (.invokevirtual 28, 3) := by decide +kernel
theorem dX4_iterate_35 : decode cX4_iterate 35 = .ok (.istore 6, 2) := by decide +kernel
theorem dX4_iterate_37 : decode cX4_iterate 37 = .ok (.aload 5, 2) := by decide +kernel
theorem dX4_iterate_39 : decode cX4_iterate 39 = .ok (.getfield 32, 3) := by decide +kernel
theorem dX4_iterate_42 : decode cX4_iterate 42 = .ok (.iload_n 3, 1) := by decide +kernel
theorem dX4_iterate_43 : decode cX4_iterate 43 = .ok (.iadd, 1) := by decide +kernel
theorem dX4_iterate_44 : decode cX4_iterate 44 = .ok (.istore 7, 2) := by decide +kernel
theorem dX4_iterate_46 : decode cX4_iterate 46 = .ok (.iload 7, 2) := by decide +kernel
theorem dX4_iterate_48 : decode cX4_iterate 48 = .ok (.ifCond .lt 20, 3) := by decide +kernel
theorem dX4_iterate_51 : decode cX4_iterate 51 = .ok (.iload 7, 2) := by decide +kernel
theorem dX4_iterate_53 : decode cX4_iterate 53 = .ok (.sipush 245, 3) := by decide +kernel
theorem dX4_iterate_56 : decode cX4_iterate 56 = .ok (.if_icmp .ge 12, 3) := by decide +kernel
theorem dX4_iterate_59 : decode cX4_iterate 59 = .ok (.aload_n 0, 1) := by decide +kernel
theorem dX4_iterate_60 : decode cX4_iterate 60 = .ok (.getfield 9, 3) := by decide +kernel
theorem dX4_iterate_63 : decode cX4_iterate 63 = .ok (.iload 7, 2) := by decide +kernel
theorem dX4_iterate_65 : decode cX4_iterate 65 = .ok (.iload 6, 2) := by decide +kernel
theorem dX4_iterate_67 : decode cX4_iterate 67 = .ok (.iastore, 1) := by decide +kernel
theorem dX4_iterate_68 : decode cX4_iterate 68 = .ok (.iinc 4 1, 3) := by decide +kernel
theorem dX4_iterate_71 : decode cX4_iterate 71 = .ok (.goto (-68), 3) := by decide +kernel
theorem dX4_iterate_74 : decode cX4_iterate 74 = .ok (.return_, 1) := by decide +kernel
theorem dX4_evaluate_0 : decode cX4_evaluate 0 = .ok (.iconst 0, 1) := by decide +kernel
theorem dX4_evaluate_1 : decode cX4_evaluate 1 = .ok (.istore 4, 2) := by decide +kernel
theorem dX4_evaluate_3 : decode cX4_evaluate 3 = .ok (.aload_n 2, 1) := by decide +kernel
theorem dX4_evaluate_4 : decode cX4_evaluate 4 = .ok (.getfield 37, 3) := by decide +kernel
theorem dX4_evaluate_7 : decode cX4_evaluate 7 = .ok (.bipush 120, 2) := by decide +kernel
theorem dX4_evaluate_9 : decode cX4_evaluate 9 = .ok (.invokestatic 40, 3) := by decide +kernel
theorem dX4_evaluate_12 : decode cX4_evaluate 12 = .ok (.istore 5, 2) := by decide +kernel
theorem dX4_evaluate_14 : decode cX4_evaluate 14 = .ok (.aload_n 2, 1) := by decide +kernel
theorem dX4_evaluate_15 : decode cX4_evaluate 15 = .ok (.getfield 46, 3) := by decide +kernel
theorem dX4_evaluate_18 : decode cX4_evaluate 18 = .ok (.iconst 0, 1) := by decide +kernel
theorem dX4_evaluate_19 : decode cX4_evaluate 19 = .ok (.invokestatic 49, 3) := by decide +kernel
theorem dX4_evaluate_22 : decode cX4_evaluate 22 = .ok (.istore 6, 2) := by decide +kernel
theorem dX4_evaluate_24 : decode cX4_evaluate 24 = .ok (.iload 6, 2) := by decide +kernel
theorem dX4_evaluate_26 : decode cX4_evaluate 26 = .ok (.iload 5, 2) := by decide +kernel
theorem dX4_evaluate_28 : decode cX4_evaluate 28 = .ok (.if_icmp .ge 104, 3) := by decide +kernel
theorem dX4_evaluate_31 : decode cX4_evaluate 31 = .ok (.aload_n 1, 1) := by decide +kernel
theorem dX4_evaluate_32 : decode cX4_evaluate 32 = .ok (.getfield 52, 3) := by decide +kernel
theorem dX4_evaluate_35 : decode cX4_evaluate 35 = .ok (.iload 6, 2) := by decide +kernel
theorem dX4_evaluate_37 : decode cX4_evaluate 37 = .ok (.iaload, 1) := by decide +kernel
theorem dX4_evaluate_38 : decode cX4_evaluate 38 = .ok (.istore 7, 2) := by decide +kernel
theorem dX4_evaluate_40 : decode cX4_evaluate 40 = .ok (.iload 7, 2) := by decide +kernel
theorem dX4_evaluate_42 : decode cX4_evaluate 42 = .ok (.iconst 2, 1) := by decide +kernel
theorem dX4_evaluate_43 : decode cX4_evaluate 43 = .ok (.if_icmp .le 37, 3) := by decide +kernel
theorem dX4_evaluate_46 : decode cX4_evaluate 46 = .ok (.iload 4, 2) := by decide +kernel
theorem dX4_evaluate_48 : decode cX4_evaluate 48 = .ok (.bipush 9, 2) := by decide +kernel
theorem dX4_evaluate_50 : decode cX4_evaluate 50 = .ok (.if_icmp .ge 30, 3) := by decide +kernel
theorem dX4_evaluate_53 : decode cX4_evaluate 53 = .ok (.aload_n 0, 1) := by decide +kernel
theorem dX4_evaluate_54 : decode cX4_evaluate 54 = .ok (.getfield 15, 3) := by decide +kernel
theorem dX4_evaluate_57 : decode cX4_evaluate 57 = .ok (.iload 4, 2) := by decide +kernel
theorem dX4_evaluate_59 : decode cX4_evaluate 59 = .ok (.aload_n 0, 1) := by decide +kernel
theorem dX4_evaluate_60 : decode cX4_evaluate 60 = .ok (.iload 7, 2) := by decide +kernel
theorem dX4_evaluate_62 : decode cX4_evaluate 62 = .ok (.aload_n 1, 1) := by decide +kernel
theorem dX4_evaluate_63 : decode cX4_evaluate 63 = .ok (.getfield 55, 3) := by decide +kernel
theorem dX4_evaluate_66 : decode cX4_evaluate 66 = .ok (.iload 6, 2) := by decide +kernel
theorem dX4_evaluate_68 : decode cX4_evaluate 68 = .ok (.iaload, 1) := by decide +kernel
theorem dX4_evaluate_69 : decode cX4_evaluate 69 = .ok (.iload_n 3, 1) := by decide +kernel
theorem dX4_evaluate_70 : decode cX4_evaluate 70 = .ok (.invokevirtual 58, 3) := by decide +kernel
theorem dX4_evaluate_73 : decode cX4_evaluate 73 = .ok (.iastore, 1) := by decide +kernel
theorem dX4_evaluate_74 : decode cX4_evaluate 74 = .ok (.iinc 4 1, 3) := by decide +kernel
theorem dX4_evaluate_77 : decode cX4_evaluate 77 = .ok (.goto 49, 3) := by decide +kernel
theorem dX4_evaluate_80 : decode cX4_evaluate 80 = .ok (.iload 4, 2) := by decide +kernel
theorem dX4_evaluate_82 : decode cX4_evaluate 82 = .ok (.iconst 2, 1) := by decide +kernel
theorem dX4_evaluate_83 : decode cX4_evaluate 83 = .ok (.if_icmp .lt 43, 3) := by decide +kernel
theorem dX4_evaluate_86 : decode cX4_evaluate 86 = .ok (.iload 4, 2) := by decide +kernel
theorem dX4_evaluate_88 : decode cX4_evaluate 88 = .ok (.bipush 9, 2) := by decide +kernel
theorem dX4_evaluate_90 : decode cX4_evaluate 90 = .ok (.if_icmp .gt 36, 3) := by decide +kernel
theorem dX4_evaluate_93 : decode cX4_evaluate 93 = .ok (.iinc 4 (-1), 3) := by decide +kernel
theorem dX4_evaluate_96 : decode cX4_evaluate 96 = .ok (.aload_n 0, 1) := by decide +kernel
theorem dX4_evaluate_97 : decode cX4_evaluate 97 = .ok (.getfield 15, 3) := by decide +kernel
theorem dX4_evaluate_100 : decode cX4_evaluate 100 = .ok (.iload 4, 2) := by decide +kernel
theorem dX4_evaluate_102 : decode cX4_evaluate 102 = .ok (.iconst 1, 1) := by decide +kernel
theorem dX4_evaluate_103 : decode cX4_evaluate 103 = .ok (.isub, 1) := by decide +kernel
theorem dX4_evaluate_104 : decode cX4_evaluate 104 = .ok (.iload 7, 2) := by decide +kernel
theorem dX4_evaluate_106 : decode cX4_evaluate 106 = .ok (.aload_n 0, 1) := by decide +kernel
theorem dX4_evaluate_107 : decode cX4_evaluate 107 = .ok (.getfield 15, 3) := by decide +kernel
theorem dX4_evaluate_110 : decode cX4_evaluate 110 = .ok (.iload 4, 2) := by decide +kernel
theorem dX4_evaluate_112 : decode cX4_evaluate 112 = .ok (.iconst 1, 1) := by decide +kernel
theorem dX4_evaluate_113 : decode cX4_evaluate 113 = .ok (.isub, 1) := by decide +kernel
theorem dX4_evaluate_114 : decode cX4_evaluate 114 = .ok (.iaload, 1) := by decide +kernel
theorem dX4_evaluate_115 : decode cX4_evaluate 115 = .ok (.aload_n 0, 1) := by decide +kernel
theorem dX4_evaluate_116 : decode cX4_evaluate 116 = .ok (.getfield 15, 3) := by decide +kernel
theorem dX4_evaluate_119 : decode cX4_evaluate 119 = .ok (.iload 4, 2) := by decide +kernel
theorem dX4_evaluate_121 : decode cX4_evaluate 121 = .ok (.iaload, 1) := by decide +kernel
theorem dX4_evaluate_122 : decode cX4_evaluate 122 = .ok (.invokestatic 62, 3) := by decide +kernel
theorem dX4_evaluate_125 : decode cX4_evaluate 125 = .ok (.iastore, 1) := by decide +kernel
theorem dX4_evaluate_126 : decode cX4_evaluate 126 = .ok (.iinc 6 1, 3) := by decide +kernel
theorem dX4_evaluate_129 : decode cX4_evaluate 129 = .ok (.goto (-105), 3) := by decide +kernel
theorem dX4_evaluate_132 : decode cX4_evaluate 132 = .ok (.aload_n 0, 1) := by decide +kernel
theorem dX4_evaluate_133 : decode cX4_evaluate 133 = .ok (.getfield 15, 3) := by decide +kernel
theorem dX4_evaluate_136 : decode cX4_evaluate 136 = .ok (.iconst 0, 1) := by decide +kernel
theorem dX4_evaluate_137 : decode cX4_evaluate 137 = .ok (.iaload, 1) := by decide +kernel
theorem dX4_evaluate_138 : decode cX4_evaluate 138 = .ok (.ireturn, 1) := by decide +kernel
theorem dX4_operand_0 : decode cX4_operand 0 = .ok (.iload_n 1, 1) := by decide +kernel
theorem dX4_operand_1 : decode cX4_operand 1 = .ok (.iconst 3, 1) := by decide +kernel
theorem dX4_operand_2 : decode cX4_operand 2 = .ok (.if_icmp .ne 5, 3) := by decide +kernel
theorem dX4_operand_5 : decode cX4_operand 5 = .ok (.iload_n 2, 1) := by decide +kernel
theorem dX4_operand_6 : decode cX4_operand 6 = .ok (.ireturn, 1) := by decide +kernel
theorem dX4_operand_7 : decode cX4_operand 7 = .ok (.iload_n 2, 1) := by decide +kernel
theorem dX4_operand_8 : decode cX4_operand 8 = .ok (.iload_n 3, 1) := by decide +kernel
theorem dX4_operand_9 : decode cX4_operand 9 = .ok (.iadd, 1) := by decide +kernel
theorem dX4_operand_10 : decode cX4_operand 10 = .ok (.istore 4, 2) := by decide +kernel
theorem dX4_operand_12 : decode cX4_operand 12 = .ok (.iload_n 1, 1) := by decide +kernel
theorem dX4_operand_13 : decode cX4_operand 13 = .ok (.iconst 4, 1) := by decide +kernel
theorem dX4_operand_14 : decode cX4_operand 14 = .ok (.if_icmp .ne 7, 3) := by decide +kernel
theorem dX4_operand_17 : decode cX4_operand 17 = .ok (.iload_n 3, 1) := by decide +kernel
theorem dX4_operand_18 : decode cX4_operand 18 = .ok (.goto 27, 3) := by decide +kernel
theorem dX4_operand_21 : decode cX4_operand 21 = .ok (.iload 4, 2) := by decide +kernel
theorem dX4_operand_23 : decode cX4_operand 23 = .ok (.ifCond .lt 21, 3) := by decide +kernel
theorem dX4_operand_26 : decode cX4_operand 26 = .ok (.iload 4, 2) := by decide +kernel
theorem dX4_operand_28 : decode cX4_operand 28 = .ok (.sipush 245, 3) := by decide +kernel
theorem dX4_operand_31 : decode cX4_operand 31 = .ok (.if_icmp .ge 13, 3) := by decide +kernel
theorem dX4_operand_34 : decode cX4_operand 34 = .ok (.aload_n 0, 1) := by decide +kernel
theorem dX4_operand_35 : decode cX4_operand 35 = .ok (.getfield 9, 3) := by decide +kernel
theorem dX4_operand_38 : decode cX4_operand 38 = .ok (.iload 4, 2) := by decide +kernel
theorem dX4_operand_40 : decode cX4_operand 40 = .ok (.iaload, 1) := by decide +kernel
theorem dX4_operand_41 : decode cX4_operand 41 = .ok (.goto 4, 3) := by decide +kernel
theorem dX4_operand_44 : decode cX4_operand 44 = .ok (.iconst 0, 1) := by decide +kernel
theorem dX4_operand_45 : decode cX4_operand 45 = .ok (.ireturn, 1) := by decide +kernel
theorem dX4_apply_0 : decode cX4_apply 0 = .ok (.iload_n 0, 1) := by decide +kernel
theorem dX4_apply_1 : decode cX4_apply 1 = .ok (.ifCond .ne 9, 3) := by decide +kernel
theorem dX4_apply_4 : decode cX4_apply 4 = .ok (.iload_n 1, 1) := by decide +kernel
theorem dX4_apply_5 : decode cX4_apply 5 = .ok (.iload_n 2, 1) := by decide +kernel
theorem dX4_apply_6 : decode cX4_apply 6 = .ok (.iadd, 1) := by decide +kernel
theorem dX4_apply_7 : decode cX4_apply 7 = .ok (.goto 17, 3) := by decide +kernel
theorem dX4_apply_10 : decode cX4_apply 10 = .ok (.iload_n 0, 1) := by decide +kernel
theorem dX4_apply_11 : decode cX4_apply 11 = .ok (.iconst 1, 1) := by decide +kernel
theorem dX4_apply_12 : decode cX4_apply 12 = .ok (.if_icmp .ne 9, 3) := by decide +kernel
theorem dX4_apply_15 : decode cX4_apply 15 = .ok (.iload_n 1, 1) := by decide +kernel
theorem dX4_apply_16 : decode cX4_apply 16 = .ok (.iload_n 2, 1) := by decide +kernel
theorem dX4_apply_17 : decode cX4_apply 17 = .ok (.isub, 1) := by decide +kernel
theorem dX4_apply_18 : decode cX4_apply 18 = .ok (.goto 6, 3) := by decide +kernel
theorem dX4_apply_21 : decode cX4_apply 21 = .ok (.iload_n 1, 1) := by decide +kernel
theorem dX4_apply_22 : decode cX4_apply 22 = .ok (.iload_n 2, 1) := by decide +kernel
theorem dX4_apply_23 : decode cX4_apply 23 = .ok (.imul, 1) := by decide +kernel
theorem dX4_apply_24 : decode cX4_apply 24 = .ok (.ireturn, 1) := by decide +kernel
theorem dX5_init_0 : decode cX5_init 0 = .ok (.aload_n 0, 1) := by decide +kernel
theorem dX5_init_1 : decode cX5_init 1 = .ok (.invokespecial 3, 3) := by decide +kernel
theorem dX5_init_4 : decode cX5_init 4 = .ok (.aload_n 0, 1) := by decide +kernel
theorem dX5_init_5 : decode cX5_init 5 = .ok (.new 9, 3) := by decide +kernel
theorem dX5_init_8 : decode cX5_init 8 = .ok (.dup, 1) := by decide +kernel
theorem dX5_init_9 : decode cX5_init 9 = .ok (.invokespecial 11, 3) := by decide +kernel
theorem dX5_init_12 : decode cX5_init 12 = .ok (.putfield 12, 3) := by decide +kernel
theorem dX5_init_15 : decode cX5_init 15 = .ok (.aload_n 0, 1) := by decide +kernel
theorem dX5_init_16 : decode cX5_init 16 = .ok (.bipush 7, 2) := by decide +kernel
theorem dX5_init_18 : decode cX5_init 18 = .ok (.newarray .int, 2) := by decide +kernel
theorem dX5_init_20 : decode cX5_init 20 = .ok (.putfield 18, 3) := by decide +kernel
theorem dX5_init_23 : decode cX5_init 23 = .ok (.aload_n 0, 1) := by decide +kernel
theorem dX5_init_24 : decode cX5_init 24 = .ok (.bipush 7, 2) := by decide +kernel
theorem dX5_init_26 : decode cX5_init 26 = .ok (.newarray .int, 2) := by decide +kernel
theorem dX5_init_28 : decode cX5_init 28 = .ok (.putfield 22, 3) := by decide +kernel
theorem dX5_init_31 : decode cX5_init 31 = .ok (.aload_n 0, 1) := by decide +kernel
theorem dX5_init_32 : decode cX5_init 32 = .ok (.bipush 7, 2) := by decide +kernel
theorem dX5_init_34 : decode cX5_init 34 = .ok (.newarray .int, 2) := by decide +kernel
theorem dX5_init_36 : decode cX5_init 36 = .ok (.putfield 25, 3) := by decide +kernel
theorem dX5_init_39 : decode cX5_init 39 = .ok (.aload_n 0, 1) := by decide +kernel
theorem dX5_init_40 : decode cX5_init 40 = .ok (.bipush 7, 2) := by decide +kernel
theorem dX5_init_42 : decode cX5_init 42 = .ok (.newarray .int, 2) := by decide +kernel
theorem dX5_init_44 : decode cX5_init 44 = .ok (.putfield 28, 3) := by decide +kernel
theorem dX5_init_47 : decode cX5_init 47 = .ok (.aload_n 0, 1) := by decide +kernel
theorem dX5_init_48 : decode cX5_init 48 = .ok (.iconst (-1), 1) := by decide +kernel
theorem dX5_init_49 : decode cX5_init 49 = .ok (.putfield 31, 3) := by decide +kernel
theorem dX5_init_52 : decode cX5_init 52 = .ok (.aload_n 0, 1) := by decide +kernel
theorem dX5_init_53 : decode cX5_init 53 = .ok (.iconst (-1), 1) := by decide +kernel
theorem dX5_init_54 : decode cX5_init 54 = .ok (.putfield 35, 3) := by decide +kernel
theorem dX5_init_57 : decode cX5_init 57 = .ok (.aload_n 0, 1) := by decide +kernel
theorem dX5_init_58 : decode cX5_init 58 = .ok (.iload_n 1, 1) := by decide +kernel
theorem dX5_init_59 : decode cX5_init 59 = .ok (.putfield 38, 3) := by decide +kernel
theorem dX5_init_62 : decode cX5_init 62 = .ok (.aload_n 0, 1) := by decide +kernel
theorem dX5_init_63 : decode cX5_init 63 = .ok (.aload_n 2, 1) := by decide +kernel
theorem dX5_init_64 : decode cX5_init 64 = .ok (.putfield 41, 3) := by decide +kernel
theorem dX5_init_67 : decode cX5_init 67 = .ok (.aload_n 0, 1) := by decide +kernel
theorem dX5_init_68 : decode cX5_init 68 = .ok (.aload_n 3, 1) := by decide +kernel
theorem dX5_init_69 : decode cX5_init 69 = .ok (.putfield 45, 3) := by decide +kernel
theorem dX5_init_72 : decode cX5_init 72 = .ok (.aload_n 0, 1) := by decide +kernel
theorem dX5_init_73 : decode cX5_init 73 = .ok (.aload 4, 2) := by decide +kernel
theorem dX5_init_75 : decode cX5_init 75 = .ok (.putfield 49, 3) := by decide +kernel
theorem dX5_init_78 : decode cX5_init 78 = .ok (.return_, 1) := by decide +kernel
theorem dX5_make_0 : decode cX5_make 0 = .ok (.aload_n 0, 1) := by decide +kernel
theorem dX5_make_1 : decode cX5_make 1 = .ok (.getfield 31, 3) := by decide +kernel
theorem dX5_make_4 : decode cX5_make 4 = .ok (.aload_n 0, 1) := by decide +kernel
theorem dX5_make_5 : decode cX5_make 5 = .ok (.getfield 41, 3) := by decide +kernel
theorem dX5_make_8 : decode cX5_make 8 = .ok (.getfield 53, 3) := by decide +kernel
theorem dX5_make_11 : decode cX5_make 11 = .ok (.if_icmp .ne 4, 3) := by decide +kernel
theorem dX5_make_14 : decode cX5_make 14 = .ok (.return_, 1) := by decide +kernel
theorem dX5_make_15 : decode cX5_make 15 = .ok (.aload_n 0, 1) := by decide +kernel
theorem dX5_make_16 : decode cX5_make 16 = .ok (.getfield 38, 3) := by decide +kernel
theorem dX5_make_19 : decode cX5_make 19 = .ok (.ifCond .eq 15, 3) := by decide +kernel
theorem dX5_make_22 : decode cX5_make 22 = .ok (.aload_n 0, 1) := by decide +kernel
theorem dX5_make_23 : decode cX5_make 23 = .ok (.getfield 38, 3) := by decide +kernel
theorem dX5_make_26 : decode cX5_make 26 = .ok (.iconst 1, 1) := by decide +kernel
theorem dX5_make_27 : decode cX5_make 27 = .ok (.if_icmp .eq 7, 3) := by decide +kernel
theorem dX5_make_30 : decode cX5_make 30 = .ok (.aload_n 0, 1) := by decide +kernel
theorem dX5_make_31 : decode cX5_make 31 = .ok (.invokevirtual 58, 3) := by decide +kernel
theorem dX5_make_34 : decode cX5_make 34 = .ok (.aload_n 0, 1) := by decide +kernel
theorem dX5_make_35 : decode cX5_make 35 = .ok (.iconst 0, 1) := by decide +kernel
theorem dX5_make_36 : decode cX5_make 36 = .ok (.putfield 61, 3) := by decide +kernel
theorem dX5_make_39 : decode cX5_make 39 = .ok (.iconst 0, 1) := by decide +kernel
theorem dX5_make_40 : decode cX5_make 40 = .ok (.istore_n 1, 1) := by decide +kernel
theorem dX5_make_41 : decode cX5_make 41 = .ok (.iconst 0, 1) := by decide +kernel
theorem dX5_make_42 : decode cX5_make 42 = .ok (.istore_n 2, 1) := by decide +kernel
theorem dX5_make_43 : decode cX5_make 43 = .ok (.iload_n 2, 1) := by decide +kernel
theorem dX5_make_44 : decode cX5_make 44 = .ok (.aload_n 0, 1) := by decide +kernel
theorem dX5_make_45 : decode cX5_make 45 = .ok (.getfield 41, 3) := by decide +kernel
theorem dX5_make_48 : decode cX5_make 48 = .ok (.getfield 64, 3) := by decide +kernel
theorem dX5_make_51 : decode cX5_make 51 = .ok (.if_icmp .ge 48, 3) := by decide +kernel
theorem dX5_make_54 : decode cX5_make 54 = .ok (.iload_n 2, 1) := by decide +kernel
theorem dX5_make_55 : decode cX5_make 55 = .ok (.bipush 6, 2) := by decide +kernel
theorem dX5_make_57 : decode cX5_make 57 = .ok (.if_icmp .ge 42, 3) := by decide +kernel
theorem dX5_make_60 : decode cX5_make 60 = .ok (.iload_n 2, 1) := by decide +kernel
theorem dX5_make_61 : decode cX5_make 61 = .ok (.iload_n 1, 1) := by decide +kernel
theorem dX5_make_62 : decode cX5_make 62 = .ok (.if_icmp .ne 31, 3) := by decide +kernel
theorem dX5_make_65 : decode cX5_make 65 = .ok (.aload_n 0, 1) := by decide +kernel
theorem dX5_make_66 : decode cX5_make 66 = .ok (.getfield 18, 3) := by decide +kernel
theorem dX5_make_69 : decode cX5_make 69 = .ok (.aload_n 0, 1) := by decide +kernel
theorem dX5_make_70 : decode cX5_make 70 = .ok (.getfield 61, 3) := by decide +kernel
theorem dX5_make_73 : decode cX5_make 73 = .ok (.iload_n 2, 1) := by decide +kernel
theorem dX5_make_74 : decode cX5_make 74 = .ok (.iastore, 1) := by decide +kernel
theorem dX5_make_75 : decode cX5_make 75 = .ok (.aload_n 0, 1) := by decide +kernel
theorem dX5_make_76 : decode cX5_make 76 = .ok (.dup, 1) := by decide +kernel
theorem dX5_make_77 : decode cX5_make 77 = .ok (.getfield 61, 3) := by decide +kernel
theorem dX5_make_80 : decode cX5_make 80 = .ok (.iconst 1, 1) := by decide +kernel
theorem dX5_make_81 : decode cX5_make 81 = .ok (.iadd, 1) := by decide +kernel
theorem dX5_make_82 : decode cX5_make 82 = .ok (.putfield 61, 3) := by decide +kernel
theorem dX5_make_85 : decode cX5_make 85 = .ok (.iload_n 2, 1) := by decide +kernel
theorem dX5_make_86 : decode cX5_make 86 = .ok (.aload_n 0, 1) := by decide +kernel
theorem dX5_make_87 : decode cX5_make 87 = .ok (.iload_n 2, 1) := by decide +kernel
theorem dX5_make_88 : decode cX5_make 88 = .ok (.invokevirtual 67, 3) := by decide +kernel
theorem dX5_make_91 : decode cX5_make 91 = .ok (.iadd, 1) := by decide +kernel
theorem dX5_make_92 : decode cX5_make 92 = .ok (.istore_n 1, 1) := by decide +kernel
theorem dX5_make_93 : decode cX5_make 93 = .ok (.iinc 2 1, 3) := by decide +kernel
theorem dX5_make_96 : decode cX5_make 96 = .ok (.goto (-53), 3) := by decide +kernel
theorem dX5_make_99 : decode cX5_make 99 = .ok (.aload_n 0, 1) := by decide +kernel
theorem dX5_make_100 : decode cX5_make 100 = .ok (.getfield 18, 3) := by decide +kernel
theorem dX5_make_103 : decode cX5_make 103 = .ok (.aload_n 0, 1) := by decide +kernel
theorem dX5_make_104 : decode cX5_make 104 = .ok (.getfield 61, 3) := by decide +kernel
theorem dX5_make_107 : decode cX5_make 107 = .ok (.aload_n 0, 1) := by decide +kernel
theorem dX5_make_108 : decode cX5_make 108 = .ok (.getfield 41, 3) := by decide +kernel
theorem dX5_make_111 : decode cX5_make 111 = .ok (.getfield 64, 3) := by decide +kernel
theorem dX5_make_114 : decode cX5_make 114 = .ok (.iastore, 1) := by decide +kernel
theorem dX5_make_115 : decode cX5_make 115 = .ok (.aload_n 0, 1) := by decide +kernel
theorem dX5_make_116 : decode cX5_make 116 = .ok (.aload_n 0, 1) := by decide +kernel
theorem dX5_make_117 : decode cX5_make 117 = .ok (.getfield 41, 3) := by decide +kernel
theorem dX5_make_120 : decode cX5_make 120 = .ok (.getfield 53, 3) := by decide +kernel
theorem dX5_make_123 : decode cX5_make 123 = .ok (.putfield 31, 3) := by decide +kernel
theorem dX5_make_126 : decode cX5_make 126 = .ok (.return_, 1) := by decide +kernel
theorem dX5_sizeFrom_0 : decode cX5_sizeFrom 0 = .ok (.aload_n 0, 1) := by decide +kernel
theorem dX5_sizeFrom_1 : decode cX5_sizeFrom 1 = .ok (.getfield 38, 3) := by decide +kernel
theorem dX5_sizeFrom_4 : decode cX5_sizeFrom 4 = .ok (.ifCond .ne 5, 3) := by decide +kernel
theorem dX5_sizeFrom_7 : decode cX5_sizeFrom 7 = .ok (.iconst 1, 1) := by decide +kernel
theorem dX5_sizeFrom_8 : decode cX5_sizeFrom 8 = .ok (.ireturn, 1) := by decide +kernel
theorem dX5_sizeFrom_9 : decode cX5_sizeFrom 9 = .ok (.aload_n 0, 1) := by decide +kernel
theorem dX5_sizeFrom_10 : decode cX5_sizeFrom 10 = .ok (.getfield 38, 3) := by decide +kernel
theorem dX5_sizeFrom_13 : decode cX5_sizeFrom 13 = .ok (.iconst 1, 1) := by decide +kernel
theorem dX5_sizeFrom_14 : decode cX5_sizeFrom 14 = .ok (.if_icmp .ne 14, 3) := by decide +kernel
theorem dX5_sizeFrom_17 : decode cX5_sizeFrom 17 = .ok (.aload_n 0, 1) := by decide +kernel
theorem dX5_sizeFrom_18 : decode cX5_sizeFrom 18 = .ok (.getfield 45, 3) := by decide +kernel
theorem dX5_sizeFrom_21 : decode cX5_sizeFrom 21 = .ok (.iload_n 1, 1) := by decide +kernel
theorem dX5_sizeFrom_22 : decode cX5_sizeFrom 22 = .ok (.invokevirtual 71, 3) := by decide +kernel
theorem dX5_sizeFrom_25 : decode cX5_sizeFrom 25 = .ok (.goto 9, 3) := by decide +kernel
theorem dX5_sizeFrom_28 : decode cX5_sizeFrom 28 = .ok (.aload_n 0, 1) := by decide +kernel
theorem dX5_sizeFrom_29 : decode cX5_sizeFrom 29 = .ok (.getfield 28, 3) := by decide +kernel
theorem dX5_sizeFrom_32 : decode cX5_sizeFrom 32 = .ok (.iload_n 1, 1) := by decide +kernel
theorem dX5_sizeFrom_33 : decode cX5_sizeFrom 33 = .ok (.iaload, 1) := by decide +kernel
theorem dX5_sizeFrom_34 : decode cX5_sizeFrom 34 = .ok (.ireturn, 1) := by decide +kernel
theorem dX5_weigh_0 : decode cX5_weigh 0 = .ok (.aload_n 0, 1) := by decide +kernel
theorem dX5_weigh_1 : decode cX5_weigh 1 = .ok (.getfield 41, 3) := by decide +kernel
theorem dX5_weigh_4 : decode cX5_weigh 4 = .ok (.getfield 64, 3) := by decide +kernel
theorem dX5_weigh_7 : decode cX5_weigh 7 = .ok (.bipush 6, 2) := by decide +kernel
theorem dX5_weigh_9 : decode cX5_weigh 9 = .ok (.invokestatic 76, 3) := by decide +kernel
theorem dX5_weigh_12 : decode cX5_weigh 12 = .ok (.istore_n 1, 1) := by decide +kernel
theorem dX5_weigh_13 : decode cX5_weigh 13 = .ok (.aload_n 0, 1) := by decide +kernel
theorem dX5_weigh_14 : decode cX5_weigh 14 = .ok (.getfield 22, 3) := by decide +kernel
theorem dX5_weigh_17 : decode cX5_weigh 17 = .ok (.iload_n 1, 1) := by decide +kernel
theorem dX5_weigh_18 : decode cX5_weigh 18 = .ok (.iconst 0, 1) := by decide +kernel
theorem dX5_weigh_19 : decode cX5_weigh 19 = .ok (.iastore, 1) := by decide +kernel
theorem dX5_weigh_20 : decode cX5_weigh 20 = .ok (.aload_n 0, 1) := by decide +kernel
theorem dX5_weigh_21 : decode cX5_weigh 21 = .ok (.getfield 25, 3) := by decide +kernel
theorem dX5_weigh_24 : decode cX5_weigh 24 = .ok (.iload_n 1, 1) := by decide +kernel
theorem dX5_weigh_25 : decode cX5_weigh 25 = .ok (.iconst 0, 1) := by decide +kernel
theorem dX5_weigh_26 : decode cX5_weigh 26 = .ok (.iastore, 1) := by decide +kernel
theorem dX5_weigh_27 : decode cX5_weigh 27 = .ok (.iload_n 1, 1) := by decide +kernel
theorem dX5_weigh_28 : decode cX5_weigh 28 = .ok (.iconst 1, 1) := by decide +kernel
theorem dX5_weigh_29 : decode cX5_weigh 29 = .ok (.isub, 1) := by decide +kernel
theorem dX5_weigh_30 : decode cX5_weigh 30 = .ok (.istore_n 2, 1) := by decide +kernel
theorem dX5_weigh_31 : decode cX5_weigh 31 = .ok (.iload_n 2, 1) := by decide +kernel
theorem dX5_weigh_32 : decode cX5_weigh 32 = .ok (.ifCond .lt 177, 3) := by decide +kernel
theorem dX5_weigh_35 : decode cX5_weigh 35 = .ok (.aload_n 0, 1) := by decide +kernel
theorem dX5_weigh_36 : decode cX5_weigh 36 = .ok (.getfield 28, 3) := by decide +kernel
theorem dX5_weigh_39 : decode cX5_weigh 39 = .ok (.iload_n 2, 1) := by decide +kernel
theorem dX5_weigh_40 : decode cX5_weigh 40 = .ok (.iconst 0, 1) := by decide +kernel
theorem dX5_weigh_41 : decode cX5_weigh 41 = .ok (.iastore, 1) := by decide +kernel
theorem dX5_weigh_42 : decode cX5_weigh 42 = .ok (.aload_n 0, 1) := by decide +kernel
theorem dX5_weigh_43 : decode cX5_weigh 43 = .ok (.getfield 45, 3) := by decide +kernel
theorem dX5_weigh_46 : decode cX5_weigh 46 = .ok (.iload_n 2, 1) := by decide +kernel
theorem dX5_weigh_47 : decode cX5_weigh 47 = .ok (.invokevirtual 71, 3) := by decide +kernel
theorem dX5_weigh_50 : decode cX5_weigh 50 = .ok (.iload_n 1, 1) := by decide +kernel
theorem dX5_weigh_51 : decode cX5_weigh 51 = .ok (.iload_n 2, 1) := by decide +kernel
theorem dX5_weigh_52 : decode cX5_weigh 52 = .ok (.isub, 1) := by decide +kernel
theorem dX5_weigh_53 : decode cX5_weigh 53 = .ok (.invokestatic 76, 3) := by decide +kernel
theorem dX5_weigh_56 : decode cX5_weigh 56 = .ok (.istore_n 3, 1) := by decide +kernel
theorem dX5_weigh_57 : decode cX5_weigh 57 = .ok (.iload_n 3, 1) := by decide +kernel
theorem dX5_weigh_58 : decode cX5_weigh 58 = .ok (.iconst 1, 1) := by decide +kernel
theorem dX5_weigh_59 : decode cX5_weigh 59 = .ok (.if_icmp .lt 144, 3) := by decide +kernel
theorem dX5_weigh_62 : decode cX5_weigh 62 = .ok (.aload_n 0, 1) := by decide +kernel
theorem dX5_weigh_63 : decode cX5_weigh 63 = .ok (.getfield 45, 3) := by decide +kernel
theorem dX5_weigh_66 : decode cX5_weigh 66 = .ok (.iload_n 2, 1) := by decide +kernel
theorem dX5_weigh_67 : decode cX5_weigh 67 = .ok (.iload_n 2, 1) := by decide +kernel
theorem dX5_weigh_68 : decode cX5_weigh 68 = .ok (.iload_n 3, 1) := by decide +kernel
theorem dX5_weigh_69 : decode cX5_weigh 69 = .ok (.iadd, 1) := by decide +kernel
theorem dX5_weigh_70 : decode cX5_weigh 70 = .ok (.iconst 1, 1) := by decide +kernel
theorem dX5_weigh_71 : decode cX5_weigh 71 = .ok (.isub, 1) := by decide +kernel
theorem dX5_weigh_72 : decode cX5_weigh 72 = .ok (.invokevirtual 82, 3) := by decide +kernel
theorem dX5_weigh_75 : decode cX5_weigh 75 = .ok (.aload_n 0, 1) := by decide +kernel
theorem dX5_weigh_76 : decode cX5_weigh 76 = .ok (.getfield 49, 3) := by decide +kernel
theorem dX5_weigh_79 : decode cX5_weigh 79 = .ok (.aload_n 0, 1) := by decide +kernel
theorem dX5_weigh_80 : decode cX5_weigh 80 = .ok (.getfield 41, 3) := by decide +kernel
theorem dX5_weigh_83 : decode cX5_weigh 83 = .ok (.getfield 86, 3) := by decide +kernel
theorem dX5_weigh_86 : decode cX5_weigh 86 = .ok (.iconst 1, 1) := by decide +kernel
theorem dX5_weigh_87 : decode cX5_weigh 87 = .ok (.iaload, 1) := by decide +kernel
theorem dX5_weigh_88 : decode cX5_weigh 88 = .ok (.invokevirtual 89, 3) := by decide +kernel
theorem dX5_weigh_91 : decode cX5_weigh 91 = .ok (.aload_n 0, 1) := by decide +kernel
theorem dX5_weigh_92 : decode cX5_weigh 92 = .ok (.getfield 45, 3) := by decide +kernel
theorem dX5_weigh_95 : decode cX5_weigh 95 = .ok (.aload_n 0, 1) := by decide +kernel
theorem dX5_weigh_96 : decode cX5_weigh 96 = .ok (.getfield 49, 3) := by decide +kernel
theorem dX5_weigh_99 : decode cX5_weigh 99 = .ok (.invokevirtual 95, 3) := by decide +kernel
theorem dX5_weigh_102 : decode cX5_weigh 102 = .ok (.aload_n 0, 1) := by decide +kernel
theorem dX5_weigh_103 : decode cX5_weigh 103 = .ok (.getfield 49, 3) := by decide +kernel
theorem dX5_weigh_106 : decode cX5_weigh 106 = .ok (.getfield 99, 3) := by decide +kernel
theorem dX5_weigh_109 : decode cX5_weigh 109 = .ok (.aload_n 0, 1) := by decide +kernel
theorem dX5_weigh_110 : decode cX5_weigh 110 = .ok (.getfield 22, 3) := by decide +kernel
theorem dX5_weigh_113 : decode cX5_weigh 113 = .ok (.iload_n 2, 1) := by decide +kernel
theorem dX5_weigh_114 : decode cX5_weigh 114 = .ok (.iload_n 3, 1) := by decide +kernel
theorem dX5_weigh_115 : decode cX5_weigh 115 = .ok (.iadd, 1) := by decide +kernel
theorem dX5_weigh_116 : decode cX5_weigh 116 = .ok (.iaload, 1) := by decide +kernel
theorem dX5_weigh_117 : decode cX5_weigh 117 = .ok (.iadd, 1) := by decide +kernel
theorem dX5_weigh_118 : decode cX5_weigh 118 = .ok (.istore 4, 2) := by decide +kernel
theorem dX5_weigh_120 : decode cX5_weigh 120 = .ok (.iconst 1, 1) := by decide +kernel
theorem dX5_weigh_121 : decode cX5_weigh 121 = .ok (.aload_n 0, 1) := by decide +kernel
theorem dX5_weigh_122 : decode cX5_weigh 122 = .ok (.getfield 25, 3) := by decide +kernel
theorem dX5_weigh_125 : decode cX5_weigh 125 = .ok (.iload_n 2, 1) := by decide +kernel
theorem dX5_weigh_126 : decode cX5_weigh 126 = .ok (.iload_n 3, 1) := by decide +kernel
theorem dX5_weigh_127 : decode cX5_weigh 127 = .ok (.iadd, 1) := by decide +kernel
