theorem dX0_init_0 : decode cX0_init 0 = .ok (.aload_n 0, 1) := by decide +kernel
theorem dX0_init_1 : decode cX0_init 1 = .ok (.invokespecial 3, 3) := by decide +kernel
theorem dX0_init_4 : decode cX0_init 4 = .ok (.aload_n 0, 1) := by decide +kernel
theorem dX0_init_5 : decode cX0_init 5 = .ok (.iload_n 1, 1) := by decide +kernel
theorem dX0_init_6 : decode cX0_init 6 = .ok (.putfield 9, 3) := by decide +kernel
theorem dX0_init_9 : decode cX0_init 9 = .ok (.aload_n 0, 1) := by decide +kernel
theorem dX0_init_10 : decode cX0_init 10 = .ok (.iload_n 2, 1) := by decide +kernel
theorem dX0_init_11 : decode cX0_init 11 = .ok (.newarray .int, 2) := by decide +kernel
theorem dX0_init_13 : decode cX0_init 13 = .ok (.putfield 15, 3) := by decide +kernel
theorem dX0_init_16 : decode cX0_init 16 = .ok (.aload_n 0, 1) := by decide +kernel
theorem dX0_init_17 : decode cX0_init 17 = .ok (.iload_n 2, 1) := by decide +kernel
theorem dX0_init_18 : decode cX0_init 18 = .ok (.newarray .int, 2) := by decide +kernel
theorem dX0_init_20 : decode cX0_init 20 = .ok (.putfield 19, 3) := by decide +kernel
theorem dX0_init_23 : decode cX0_init 23 = .ok (.return_, 1) := by decide +kernel
theorem dX0_length_0 : decode cX0_length 0 = .ok (.aload_n 0, 1) := by decide +kernel
theorem dX0_length_1 : decode cX0_length 1 = .ok (.getfield 22, 3) := by decide +kernel
theorem dX0_length_4 : decode cX0_length 4 = .ok (.ireturn, 1) := by decide +kernel
theorem dX0_has_0 : decode cX0_has 0 = .ok (.iload_n 1, 1) := by decide +kernel
theorem dX0_has_1 : decode cX0_has 1 = .ok (.ifCond .lt 15, 3) := by decide +kernel
theorem dX0_has_4 : decode cX0_has 4 = .ok (.iload_n 1, 1) := by decide +kernel
theorem dX0_has_5 : decode cX0_has 5 = .ok (.aload_n 0, 1) := by decide +kernel
theorem dX0_has_6 : decode cX0_has 6 = .ok (.getfield 22, 3) := by decide +kernel
theorem dX0_has_9 : decode cX0_has 9 = .ok (.if_icmp .ge 7, 3) := by decide +kernel
theorem dX0_has_12 : decode cX0_has 12 = .ok (.iconst 1, 1) := by decide +kernel
theorem dX0_has_13 : decode cX0_has 13 = .ok (.goto 4, 3) := by decide +kernel
theorem dX0_has_16 : decode cX0_has 16 = .ok (.iconst 0, 1) := by decide +kernel
theorem dX0_has_17 : decode cX0_has 17 = .ok (.ireturn, 1) := by decide +kernel
theorem dX0_get_0 : decode cX0_get 0 = .ok (.iload_n 1, 1) := by decide +kernel
theorem dX0_get_1 : decode cX0_get 1 = .ok (.ifCond .lt 20, 3) := by decide +kernel
theorem dX0_get_4 : decode cX0_get 4 = .ok (.iload_n 1, 1) := by decide +kernel
theorem dX0_get_5 : decode cX0_get 5 = .ok (.aload_n 0, 1) := by decide +kernel
theorem dX0_get_6 : decode cX0_get 6 = .ok (.getfield 22, 3) := by decide +kernel
theorem dX0_get_9 : decode cX0_get 9 = .ok (.if_icmp .ge 12, 3) := by decide +kernel
theorem dX0_get_12 : decode cX0_get 12 = .ok (.aload_n 0, 1) := by decide +kernel
theorem dX0_get_13 : decode cX0_get 13 = .ok (.getfield 15, 3) := by decide +kernel
theorem dX0_get_16 : decode cX0_get 16 = .ok (.iload_n 1, 1) := by decide +kernel
theorem dX0_get_17 : decode cX0_get 17 = .ok (.iaload, 1) := by decide +kernel
theorem dX0_get_18 : decode cX0_get 18 = .ok (.goto 4, 3) := by decide +kernel
theorem dX0_get_21 : decode cX0_get 21 = .ok (.iconst 0, 1) := by decide +kernel
theorem dX0_get_22 : decode cX0_get 22 = .ok (.ireturn, 1) := by decide +kernel
theorem dX0_setLength_0 : decode cX0_setLength 0 = .ok (.iconst 0, 1) := by decide +kernel
theorem dX0_setLength_1 : decode cX0_setLength 1 = .ok (.iload_n 1, 1) := by decide +kernel
theorem dX0_setLength_2 : decode cX0_setLength 2 = .ok (.aload_n 0, 1) := by decide +kernel
theorem dX0_setLength_3 : decode cX0_setLength 3 = .ok (.getfield 15, 3) := by decide +kernel
theorem dX0_setLength_6 : decode cX0_setLength 6 = .ok (.arraylength, 1) := by decide +kernel
theorem dX0_setLength_7 : decode cX0_setLength 7 = .ok (.invokestatic 29, 3) := by decide +kernel
theorem dX0_setLength_10 : decode cX0_setLength 10 = .ok (.invokestatic 35, 3) := by decide +kernel
theorem dX0_setLength_13 : decode cX0_setLength 13 = .ok (.istore_n 2, 1) := by decide +kernel
theorem dX0_setLength_14 : decode cX0_setLength 14 = .ok (.iload_n 2, 1) := by decide +kernel
theorem dX0_setLength_15 : decode cX0_setLength 15 = .ok (.istore_n 3, 1) := by decide +kernel
theorem dX0_setLength_16 : decode cX0_setLength 16 = .ok (.iload_n 3, 1) := by decide +kernel
theorem dX0_setLength_17 : decode cX0_setLength 17 = .ok (.aload_n 0, 1) := by decide +kernel
theorem dX0_setLength_18 : decode cX0_setLength 18 = .ok (.getfield 22, 3) := by decide +kernel
theorem dX0_setLength_21 : decode cX0_setLength 21 = .ok (.if_icmp .ge 16, 3) := by decide +kernel
theorem dX0_setLength_24 : decode cX0_setLength 24 = .ok (.aload_n 0, 1) := by decide +kernel
theorem dX0_setLength_25 : decode cX0_setLength 25 = .ok (.getfield 15, 3) := by decide +kernel
theorem dX0_setLength_28 : decode cX0_setLength 28 = .ok (.iload_n 3, 1) := by decide +kernel
theorem dX0_setLength_29 : decode cX0_setLength 29 = .ok (.iconst 0, 1) := by decide +kernel
theorem dX0_setLength_30 : decode cX0_setLength 30 = .ok (.iastore, 1) := by decide +kernel
theorem dX0_setLength_31 : decode cX0_setLength 31 = .ok (.iinc 3 1, 3) := by decide +kernel
theorem dX0_setLength_34 : decode cX0_setLength 34 = .ok (.goto (-18), 3) := by decide +kernel
theorem dX0_setLength_37 : decode cX0_setLength 37 = .ok (.aload_n 0, 1) := by decide +kernel
theorem dX0_setLength_38 : decode cX0_setLength 38 = .ok (.iload_n 2, 1) := by decide +kernel
theorem dX0_setLength_39 : decode cX0_setLength 39 = .ok (.putfield 22, 3) := by decide +kernel
theorem dX0_setLength_42 : decode cX0_setLength 42 = .ok (.return_, 1) := by decide +kernel
set_option maxRecDepth 20000 in
theorem ggX1_init_X0_init : GoodIn wsX1_init wsX0_init := goodIn_r _ [12, 13, 2, 3, 14, 9, 15, 16, 25, 26, 27, 28, 29] (by decide +kernel) (by decide +kernel)
set_option maxRecDepth 20000 in
theorem gX1_init_X0_init_n19 : GoodIn wsX1_init (wsX0_init) := ggX1_init_X0_init
theorem dX1_init_0 : decode cX1_init 0 = .ok (.aload_n 0, 1) := by decide +kernel
theorem dX1_init_1 : decode cX1_init 1 = .ok (.invokespecial 1, 3) := by decide +kernel
theorem dX1_init_4 : decode cX1_init 4 = .ok (.aload_n 0, 1) := by decide +kernel
theorem dX1_init_5 : decode cX1_init 5 = .ok (.iload_n 1, 1) := by decide +kernel
theorem dX1_init_6 : decode cX1_init 6 = .ok (.iconst 1, 1) := by decide +kernel
theorem dX1_init_7 : decode cX1_init 7 = .ok (.if_icmp .lt 13, 3) := by decide +kernel
theorem dX1_init_10 : decode cX1_init 10 = .ok (.iload_n 1, 1) := by decide +kernel
theorem dX1_init_11 : decode cX1_init 11 = .ok (.bipush 64, 2) := by decide +kernel
theorem dX1_init_13 : decode cX1_init 13 = .ok (.if_icmp .gt 7, 3) := by decide +kernel
theorem dX1_init_16 : decode cX1_init 16 = .ok (.iload_n 1, 1) := by decide +kernel
theorem dX1_init_17 : decode cX1_init 17 = .ok (.goto 4, 3) := by decide +kernel
theorem dX1_init_20 : decode cX1_init 20 = .ok (.iconst 1, 1) := by decide +kernel
theorem dX1_init_21 : decode cX1_init 21 = .ok (.putfield 9, 3) := by decide +kernel
theorem dX1_init_24 : decode cX1_init 24 = .ok (.aload_n 0, 1) := by decide +kernel
theorem dX1_init_25 : decode cX1_init 25 = .ok (.iconst 3, 1) := by decide +kernel
theorem dX1_init_26 : decode cX1_init 26 = .ok (.anewarray 13, 3) := by decide +kernel
theorem dX1_init_29 : decode cX1_init 29 = .ok (.putfield 15, 3) := by decide +kernel
theorem dX1_init_32 : decode cX1_init 32 = .ok (.iconst 0, 1) := by decide +kernel
theorem dX1_init_33 : decode cX1_init 33 = .ok (.istore_n 2, 1) := by decide +kernel
theorem dX1_init_34 : decode cX1_init 34 = .ok (.iload_n 2, 1) := by decide +kernel
theorem dX1_init_35 : decode cX1_init 35 = .ok (.iconst 3, 1) := by decide +kernel
theorem dX1_init_36 : decode cX1_init 36 = .ok (.if_icmp .ge 30, 3) := by decide +kernel
theorem dX1_init_39 : decode cX1_init 39 = .ok (.aload_n 0, 1) := by decide +kernel
theorem dX1_init_40 : decode cX1_init 40 = .ok (.getfield 15, 3) := by decide +kernel
theorem dX1_init_43 : decode cX1_init 43 = .ok (.iload_n 2, 1) := by decide +kernel
theorem dX1_init_44 : decode cX1_init 44 = .ok (.new 13, 3) := by decide +kernel
theorem dX1_init_47 : decode cX1_init 47 = .ok (.dup, 1) := by decide +kernel
theorem dX1_init_48 : decode cX1_init 48 = .ok (.iload_n 2, 1) := by decide +kernel
theorem dX1_init_49 : decode cX1_init 49 = .ok (.aload_n 0, 1) := by decide +kernel
theorem dX1_init_50 : decode cX1_init 50 = .ok (.getfield 9, 3) := by decide +kernel
theorem dX1_init_53 : decode cX1_init 53 = .ok (.bipush 24, 2) := by decide +kernel
theorem dX1_init_55 : decode cX1_init 55 = .ok (.imul, 1) := by decide +kernel
theorem dX1_init_56 : decode cX1_init 56 = .ok (.invokespecial 19, 3) := by decide +kernel
theorem dX1_init_59 : decode cX1_init 59 = .ok (.aastore, 1) := by decide +kernel
theorem dX1_init_60 : decode cX1_init 60 = .ok (.iinc 2 1, 3) := by decide +kernel
theorem dX1_init_63 : decode cX1_init 63 = .ok (.goto (-29), 3) := by decide +kernel
theorem dX1_init_66 : decode cX1_init 66 = .ok (.aload_n 0, 1) := by decide +kernel
theorem dX1_init_67 : decode cX1_init 67 = .ok (.bipush 16, 2) := by decide +kernel
theorem dX1_init_69 : decode cX1_init 69 = .ok (.newarray .int, 2) := by decide +kernel
theorem dX1_init_71 : decode cX1_init 71 = .ok (.putfield 22, 3) := by decide +kernel
theorem dX1_init_74 : decode cX1_init 74 = .ok (.return_, 1) := by decide +kernel
theorem dX1_feed_0 : decode cX1_feed 0 = .ok (.iload_n 1, 1) := by decide +kernel
theorem dX1_feed_1 : decode cX1_feed 1 = .ok (.ifCond .lt 19, 3) := by decide +kernel
theorem dX1_feed_4 : decode cX1_feed 4 = .ok (.iload_n 1, 1) := by decide +kernel
theorem dX1_feed_5 : decode cX1_feed 5 = .ok (.sipush 255, 3) := by decide +kernel
theorem dX1_feed_8 : decode cX1_feed 8 = .ok (.if_icmp .gt 12, 3) := by decide +kernel
theorem dX1_feed_11 : decode cX1_feed 11 = .ok (.aload_n 0, 1) := by decide +kernel
theorem dX1_feed_12 : decode cX1_feed 12 = .ok (.getfield 26, 3) := by decide +kernel
theorem dX1_feed_15 : decode cX1_feed 15 = .ok (.bipush 16, 2) := by decide +kernel
theorem dX1_feed_17 : decode cX1_feed 17 = .ok (.if_icmp .lt 5, 3) := by decide +kernel
theorem dX1_feed_20 : decode cX1_feed 20 = .ok (.iconst 0, 1) := by decide +kernel
theorem dX1_feed_21 : decode cX1_feed 21 = .ok (.ireturn, 1) := by decide +kernel
theorem dX1_feed_22 : decode cX1_feed 22 = .ok (.aload_n 0, 1) := by decide +kernel
theorem dX1_feed_23 : decode cX1_feed 23 = .ok (.getfield 22, 3) := by decide +kernel
theorem dX1_feed_26 : decode cX1_feed 26 = .ok (.aload_n 0, 1) := by decide +kernel
theorem dX1_feed_27 : decode cX1_feed 27 = .ok (.getfield 26, 3) := by decide +kernel
theorem dX1_feed_30 : decode cX1_feed 30 = .ok (.iload_n 1, 1) := by decide +kernel
theorem dX1_feed_31 : decode cX1_feed 31 = .ok (.iastore, 1) := by decide +kernel
theorem dX1_feed_32 : decode cX1_feed 32 = .ok (.aload_n 0, 1) := by decide +kernel
theorem dX1_feed_33 : decode cX1_feed 33 = .ok (.dup, 1) := by decide +kernel
theorem dX1_feed_34 : decode cX1_feed 34 = .ok (.getfield 26, 3) := by decide +kernel
theorem dX1_feed_37 : decode cX1_feed 37 = .ok (.iconst 1, 1) := by decide +kernel
theorem dX1_feed_38 : decode cX1_feed 38 = .ok (.iadd, 1) := by decide +kernel
theorem dX1_feed_39 : decode cX1_feed 39 = .ok (.putfield 26, 3) := by decide +kernel
theorem dX1_feed_42 : decode cX1_feed 42 = .ok (.iconst 1, 1) := by decide +kernel
theorem dX1_feed_43 : decode cX1_feed 43 = .ok (.ireturn, 1) := by decide +kernel
set_option maxRecDepth 20000 in
theorem ggX1_row_X1_isYear : GoodIn wsX1_row wsX1_isYear := goodIn_r _ [7] (by decide +kernel) (by decide +kernel)
set_option maxRecDepth 20000 in
theorem gX1_row_X1_isYear : GoodIn wsX1_row (va_wsS RX1 33 yX1_isYear wsX1_isYear) := goodIn_app (goodIn_of _ (by decide +kernel)) ggX1_row_X1_isYear
theorem dX1_row_0 : decode cX1_row 0 = .ok (.aload_n 0, 1) := by decide +kernel
theorem dX1_row_1 : decode cX1_row 1 = .ok (.getfield 29, 3) := by decide +kernel
theorem dX1_row_4 : decode cX1_row 4 = .ok (.ifCond .ne 17, 3) := by decide +kernel
theorem dX1_row_7 : decode cX1_row 7 = .ok (.aload_n 0, 1) := by decide +kernel
theorem dX1_row_8 : decode cX1_row 8 = .ok (.getfield 26, 3) := by decide +kernel
theorem dX1_row_11 : decode cX1_row 11 = .ok (.ifCond .eq 10, 3) := by decide +kernel
theorem dX1_row_14 : decode cX1_row 14 = .ok (.iload_n 1, 1) := by decide +kernel
theorem dX1_row_15 : decode cX1_row 15 = .ok (.invokestatic 33, 3) := by decide +kernel
theorem dX1_row_18 : decode cX1_row 18 = .ok (.ifCond .ne 5, 3) := by decide +kernel
theorem dX1_row_21 : decode cX1_row 21 = .ok (.iconst (-1), 1) := by decide +kernel
theorem dX1_row_22 : decode cX1_row 22 = .ok (.ireturn, 1) := by decide +kernel
theorem dX1_row_23 : decode cX1_row 23 = .ok (.aload_n 0, 1) := by decide +kernel
theorem dX1_row_24 : decode cX1_row 24 = .ok (.invokevirtual 37, 3) := by decide +kernel
theorem dX1_row_27 : decode cX1_row 27 = .ok (.istore_n 2, 1) := by decide +kernel
theorem dX1_row_28 : decode cX1_row 28 = .ok (.iload_n 2, 1) := by decide +kernel
theorem dX1_row_29 : decode cX1_row 29 = .ok (.iconst 2, 1) := by decide +kernel
theorem dX1_row_30 : decode cX1_row 30 = .ok (.idiv, 1) := by decide +kernel
theorem dX1_row_31 : decode cX1_row 31 = .ok (.istore_n 3, 1) := by decide +kernel
theorem dX1_row_32 : decode cX1_row 32 = .ok (.iload_n 3, 1) := by decide +kernel
theorem dX1_row_33 : decode cX1_row 33 = .ok (.aload_n 0, 1) := by decide +kernel
theorem dX1_row_34 : decode cX1_row 34 = .ok (.getfield 9, 3) := by decide +kernel
theorem dX1_row_37 : decode cX1_row 37 = .ok (.if_icmp .lt 5, 3) := by decide +kernel
theorem dX1_row_40 : decode cX1_row 40 = .ok (.iconst (-1), 1) := by decide +kernel
theorem dX1_row_41 : decode cX1_row 41 = .ok (.ireturn, 1) := by decide +kernel
theorem dX1_row_42 : decode cX1_row 42 = .ok (.iload_n 2, 1) := by decide +kernel
theorem dX1_row_43 : decode cX1_row 43 = .ok (.iconst 2, 1) := by decide +kernel
theorem dX1_row_44 : decode cX1_row 44 = .ok (.irem, 1) := by decide +kernel
theorem dX1_row_45 : decode cX1_row 45 = .ok (.ifCond .ne 12, 3) := by decide +kernel
theorem dX1_row_48 : decode cX1_row 48 = .ok (.aload_n 0, 1) := by decide +kernel
theorem dX1_row_49 : decode cX1_row 49 = .ok (.iload_n 2, 1) := by decide +kernel
theorem dX1_row_50 : decode cX1_row 50 = .ok (.iconst 1, 1) := by decide +kernel
theorem dX1_row_51 : decode cX1_row 51 = .ok (.iadd, 1) := by decide +kernel
theorem dX1_row_52 : decode cX1_row 52 = .ok (.iconst 0, 1) := by decide +kernel
theorem dX1_row_53 : decode cX1_row 53 = .ok (.iconst 0, 1) := by decide +kernel
theorem dX1_row_54 : decode cX1_row 54 = .ok (.invokevirtual 41, 3) := by decide +kernel
theorem dX1_row_57 : decode cX1_row 57 = .ok (.aload_n 0, 1) := by decide +kernel
theorem dX1_row_58 : decode cX1_row 58 = .ok (.iload_n 2, 1) := by decide +kernel
theorem dX1_row_59 : decode cX1_row 59 = .ok (.iload_n 1, 1) := by decide +kernel
theorem dX1_row_60 : decode cX1_row 60 = .ok (.aload_n 0, 1) := by decide +kernel
theorem dX1_row_61 : decode cX1_row 61 = .ok (.getfield 26, 3) := by decide +kernel
theorem dX1_row_64 : decode cX1_row 64 = .ok (.invokevirtual 41, 3) := by decide +kernel
theorem dX1_row_67 : decode cX1_row 67 = .ok (.aload_n 0, 1) := by decide +kernel
theorem dX1_row_68 : decode cX1_row 68 = .ok (.iload_n 3, 1) := by decide +kernel
theorem dX1_row_69 : decode cX1_row 69 = .ok (.invokestatic 45, 3) := by decide +kernel
theorem dX1_row_72 : decode cX1_row 72 = .ok (.iload_n 3, 1) := by decide +kernel
theorem dX1_row_73 : decode cX1_row 73 = .ok (.invokevirtual 49, 3) := by decide +kernel
theorem dX1_row_76 : decode cX1_row 76 = .ok (.aload_n 0, 1) := by decide +kernel
theorem dX1_row_77 : decode cX1_row 77 = .ok (.iconst 0, 1) := by decide +kernel
theorem dX1_row_78 : decode cX1_row 78 = .ok (.putfield 26, 3) := by decide +kernel
theorem dX1_row_81 : decode cX1_row 81 = .ok (.iload_n 2, 1) := by decide +kernel
theorem dX1_row_82 : decode cX1_row 82 = .ok (.ireturn, 1) := by decide +kernel
set_option maxRecDepth 20000 in
theorem ggX1_find_X1_readRowByte : GoodIn wsX1_find wsX1_readRowByte := goodIn_r _ [5, 6, 7, 8, 9, 4, 10, 11, 12, 13, 14, 15, 16, 17, 18, 19, 20, 21, 22, 23, 24, 25, 26, 27, 28, 29, 30, 31, 32, 33, 34, 35, 36, 37, 38, 39, 40, 41, 42, 43, 44, 45, 46, 47, 48, 49, 50, 51, 52, 53, 54, 55, 56, 57, 58, 59, 60, 61, 62, 63, 64, 65, 66, 67, 68, 69] (by decide +kernel) (by decide +kernel)
set_option maxRecDepth 20000 in
theorem gX1_find_X1_readRowByte : GoodIn wsX1_find (wsV RX1 52 RX1 yX1_readRowByte wsX1_readRowByte) := goodIn_app (goodIn_of _ (by decide +kernel)) ggX1_find_X1_readRowByte
theorem dX1_find_0 : decode cX1_find 0 = .ok (.iload_n 2, 1) := by decide +kernel
theorem dX1_find_1 : decode cX1_find 1 = .ok (.ifCond .lt 19, 3) := by decide +kernel
theorem dX1_find_4 : decode cX1_find 4 = .ok (.iload_n 2, 1) := by decide +kernel
theorem dX1_find_5 : decode cX1_find 5 = .ok (.bipush 16, 2) := by decide +kernel
theorem dX1_find_7 : decode cX1_find 7 = .ok (.if_icmp .ge 13, 3) := by decide +kernel
theorem dX1_find_10 : decode cX1_find 10 = .ok (.iload_n 2, 1) := by decide +kernel
theorem dX1_find_11 : decode cX1_find 11 = .ok (.aload_n 0, 1) := by decide +kernel
theorem dX1_find_12 : decode cX1_find 12 = .ok (.iload_n 1, 1) := by decide +kernel
theorem dX1_find_13 : decode cX1_find 13 = .ok (.iconst 3, 1) := by decide +kernel
theorem dX1_find_14 : decode cX1_find 14 = .ok (.invokevirtual 52, 3) := by decide +kernel
theorem dX1_find_17 : decode cX1_find 17 = .ok (.if_icmp .lt 5, 3) := by decide +kernel
theorem dX1_find_20 : decode cX1_find 20 = .ok (.iconst (-1), 1) := by decide +kernel
theorem dX1_find_21 : decode cX1_find 21 = .ok (.ireturn, 1) := by decide +kernel
theorem dX1_find_22 : decode cX1_find 22 = .ok (.aload_n 0, 1) := by decide +kernel
theorem dX1_find_23 : decode cX1_find 23 = .ok (.iload_n 1, 1) := by decide +kernel
theorem dX1_find_24 : decode cX1_find 24 = .ok (.iconst 4, 1) := by decide +kernel
theorem dX1_find_25 : decode cX1_find 25 = .ok (.iload_n 2, 1) := by decide +kernel
theorem dX1_find_26 : decode cX1_find 26 = .ok (.iadd, 1) := by decide +kernel
theorem dX1_find_27 : decode cX1_find 27 = .ok (.invokevirtual 52, 3) := by decide +kernel
theorem dX1_find_30 : decode cX1_find 30 = .ok (.ireturn, 1) := by decide +kernel
set_option maxRecDepth 20000 in
theorem ggX1_rows_X1_isYear : GoodIn wsX1_rows wsX1_isYear := goodIn_r _ [4] (by decide +kernel) (by decide +kernel)
set_option maxRecDepth 20000 in
theorem gX1_rows_X1_isYear : GoodIn wsX1_rows (va_wsS RX1 33 yX1_isYear wsX1_isYear) := goodIn_app (goodIn_of _ (by decide +kernel)) ggX1_rows_X1_isYear
set_option maxRecDepth 20000 in
theorem ggX1_rows_X1_stripeCount : GoodIn wsX1_rows wsX1_stripeCount := goodIn_r _ [8, 9, 10, 11, 12, 13, 14, 15, 16, 17, 18, 60, 61, 62, 63, 64, 65, 66, 67, 68, 69, 70, 71, 72] (by decide +kernel) (by decide +kernel)
set_option maxRecDepth 20000 in
theorem gX1_rows_X1_stripeCount : GoodIn wsX1_rows (wsV RX1 56 RX1 yX1_stripeCount wsX1_stripeCount) := goodIn_app (goodIn_of _ (by decide +kernel)) ggX1_rows_X1_stripeCount
set_option maxRecDepth 20000 in
theorem ggX1_rows_X1_readRowByte : GoodIn wsX1_rows wsX1_readRowByte := goodIn_r _ [22, 9, 5, 6, 7, 3, 8, 10, 11, 12, 13, 14, 15, 16, 17, 18, 23, 24, 25, 26, 27, 28, 29, 30, 31, 32, 33, 34, 35, 36, 37, 38, 39, 40, 41, 42, 43, 44, 45, 46, 47, 48, 49, 50, 51, 52, 53, 54, 55, 56, 57, 58, 59, 60, 61, 62, 63, 64, 65, 66, 67, 68, 69, 70, 71, 72] (by decide +kernel) (by decide +kernel)
set_option maxRecDepth 20000 in
theorem gX1_rows_X1_readRowByte : GoodIn wsX1_rows (wsV RX1 52 RX1 yX1_readRowByte wsX1_readRowByte) := goodIn_app (goodIn_of _ (by decide +kernel)) ggX1_rows_X1_readRowByte
theorem dX1_rows_0 : decode cX1_rows 0 = .ok (.iload_n 1, 1) := by decide +kernel
theorem dX1_rows_1 : decode cX1_rows 1 = .ok (.invokestatic 33, 3) := by decide +kernel
theorem dX1_rows_4 : decode cX1_rows 4 = .ok (.ifCond .ne 5, 3) := by decide +kernel
theorem dX1_rows_7 : decode cX1_rows 7 = .ok (.iconst 0, 1) := by decide +kernel
theorem dX1_rows_8 : decode cX1_rows 8 = .ok (.ireturn, 1) := by decide +kernel
theorem dX1_rows_9 : decode cX1_rows 9 = .ok (.iconst 0, 1) := by decide +kernel
theorem dX1_rows_10 : decode cX1_rows 10 = .ok (.istore_n 2, 1) := by decide +kernel
theorem dX1_rows_11 : decode cX1_rows 11 = .ok (.aload_n 0, 1) := by decide +kernel
theorem dX1_rows_12 : decode cX1_rows 12 = .ok (.invokevirtual 56, 3) := by decide +kernel
theorem dX1_rows_15 : decode cX1_rows 15 = .ok (.iconst 2, 1) := by decide +kernel
theorem dX1_rows_16 : decode cX1_rows 16 = .ok (.imul, 1) := by decide +kernel
theorem dX1_rows_17 : decode cX1_rows 17 = .ok (.istore_n 3, 1) := by decide +kernel
theorem dX1_rows_18 : decode cX1_rows 18 = .ok (.iconst 0, 1) := by decide +kernel
theorem dX1_rows_19 : decode cX1_rows 19 = .ok (.istore 4, 2) := by decide +kernel
theorem dX1_rows_21 : decode cX1_rows 21 = .ok (.iload 4, 2) := by decide +kernel
theorem dX1_rows_23 : decode cX1_rows 23 = .ok (.iload_n 3, 1) := by decide +kernel
theorem dX1_rows_24 : decode cX1_rows 24 = .ok (.if_icmp .ge 23, 3) := by decide +kernel
theorem dX1_rows_27 : decode cX1_rows 27 = .ok (.aload_n 0, 1) := by decide +kernel
theorem dX1_rows_28 : decode cX1_rows 28 = .ok (.iload 4, 2) := by decide +kernel
theorem dX1_rows_30 : decode cX1_rows 30 = .ok (.iconst 2, 1) := by decide +kernel
theorem dX1_rows_31 : decode cX1_rows 31 = .ok (.invokevirtual 52, 3) := by decide +kernel
theorem dX1_rows_34 : decode cX1_rows 34 = .ok (.iload_n 1, 1) := by decide +kernel
theorem dX1_rows_35 : decode cX1_rows 35 = .ok (.if_icmp .ne 6, 3) := by decide +kernel
theorem dX1_rows_38 : decode cX1_rows 38 = .ok (.iinc 2 1, 3) := by decide +kernel
theorem dX1_rows_41 : decode cX1_rows 41 = .ok (.iinc 4 1, 3) := by decide +kernel
theorem dX1_rows_44 : decode cX1_rows 44 = .ok (.goto (-23), 3) := by decide +kernel
theorem dX1_rows_47 : decode cX1_rows 47 = .ok (.iload_n 2, 1) := by decide +kernel
theorem dX1_rows_48 : decode cX1_rows 48 = .ok (.ireturn, 1) := by decide +kernel
set_option maxRecDepth 20000 in
theorem ggX1_drop_X1_isYear : GoodIn wsX1_drop wsX1_isYear := goodIn_r _ [5] (by decide +kernel) (by decide +kernel)
set_option maxRecDepth 20000 in
theorem gX1_drop_X1_isYear : GoodIn wsX1_drop (va_wsS RX1 33 yX1_isYear wsX1_isYear) := goodIn_app (goodIn_of _ (by decide +kernel)) ggX1_drop_X1_isYear
set_option maxRecDepth 20000 in
theorem ggX1_drop_X1_stripeCount : GoodIn wsX1_drop wsX1_stripeCount := goodIn_r _ [9, 10, 11, 12, 13, 14, 15, 16, 17, 18, 19, 95, 96, 97, 98, 99, 100, 101, 102, 103, 104, 105, 106, 107] (by decide +kernel) (by decide +kernel)
set_option maxRecDepth 20000 in
theorem gX1_drop_X1_stripeCount : GoodIn wsX1_drop (wsV RX1 56 RX1 yX1_stripeCount wsX1_stripeCount) := goodIn_app (goodIn_of _ (by decide +kernel)) ggX1_drop_X1_stripeCount
theorem dX1_drop_0 : decode cX1_drop 0 = .ok (.aload_n 0, 1) := by decide +kernel
theorem dX1_drop_1 : decode cX1_drop 1 = .ok (.getfield 29, 3) := by decide +kernel
theorem dX1_drop_4 : decode cX1_drop 4 = .ok (.ifCond .ne 10, 3) := by decide +kernel
theorem dX1_drop_7 : decode cX1_drop 7 = .ok (.iload_n 1, 1) := by decide +kernel
theorem dX1_drop_8 : decode cX1_drop 8 = .ok (.invokestatic 33, 3) := by decide +kernel
theorem dX1_drop_11 : decode cX1_drop 11 = .ok (.ifCond .ne 5, 3) := by decide +kernel
theorem dX1_drop_14 : decode cX1_drop 14 = .ok (.iconst 0, 1) := by decide +kernel
theorem dX1_drop_15 : decode cX1_drop 15 = .ok (.ireturn, 1) := by decide +kernel
theorem dX1_drop_16 : decode cX1_drop 16 = .ok (.iconst 0, 1) := by decide +kernel
theorem dX1_drop_17 : decode cX1_drop 17 = .ok (.istore_n 2, 1) := by decide +kernel
theorem dX1_drop_18 : decode cX1_drop 18 = .ok (.aload_n 0, 1) := by decide +kernel
theorem dX1_drop_19 : decode cX1_drop 19 = .ok (.invokevirtual 56, 3) := by decide +kernel
theorem dX1_drop_22 : decode cX1_drop 22 = .ok (.istore_n 3, 1) := by decide +kernel
theorem dX1_drop_23 : decode cX1_drop 23 = .ok (.iconst 0, 1) := by decide +kernel
theorem dX1_drop_24 : decode cX1_drop 24 = .ok (.istore 4, 2) := by decide +kernel
theorem dX1_drop_26 : decode cX1_drop 26 = .ok (.iload 4, 2) := by decide +kernel
theorem dX1_drop_28 : decode cX1_drop 28 = .ok (.iload_n 3, 1) := by decide +kernel
theorem dX1_drop_29 : decode cX1_drop 29 = .ok (.if_icmp .ge 21, 3) := by decide +kernel
theorem dX1_drop_32 : decode cX1_drop 32 = .ok (.aload_n 0, 1) := by decide +kernel
theorem dX1_drop_33 : decode cX1_drop 33 = .ok (.iload 4, 2) := by decide +kernel
theorem dX1_drop_35 : decode cX1_drop 35 = .ok (.iload_n 1, 1) := by decide +kernel
theorem dX1_drop_36 : decode cX1_drop 36 = .ok (.invokevirtual 59, 3) := by decide +kernel
theorem dX1_drop_39 : decode cX1_drop 39 = .ok (.ifCond .eq 5, 3) := by decide +kernel
theorem dX1_drop_42 : decode cX1_drop 42 = .ok (.iconst 1, 1) := by decide +kernel
theorem dX1_drop_43 : decode cX1_drop 43 = .ok (.istore_n 2, 1) := by decide +kernel
theorem dX1_drop_44 : decode cX1_drop 44 = .ok (.iinc 4 1, 3) := by decide +kernel
theorem dX1_drop_47 : decode cX1_drop 47 = .ok (.goto (-21), 3) := by decide +kernel
theorem dX1_drop_50 : decode cX1_drop 50 = .ok (.iload_n 2, 1) := by decide +kernel
theorem dX1_drop_51 : decode cX1_drop 51 = .ok (.ireturn, 1) := by decide +kernel
set_option maxRecDepth 20000 in
theorem ggX1_crash_X1_isFile : GoodIn wsX1_crash wsX1_isFile := goodIn_r _ [5] (by decide +kernel) (by decide +kernel)
set_option maxRecDepth 20000 in
theorem gX1_crash_X1_isFile : GoodIn wsX1_crash (va_wsS RX1 63 yX1_isFile wsX1_isFile) := goodIn_app (goodIn_of _ (by decide +kernel)) ggX1_crash_X1_isFile
set_option maxRecDepth 20000 in
theorem ggX1_crash_X0_length : GoodIn wsX1_crash wsX0_length := goodIn_r _ [9, 10, 41, 42, 43, 44, 45] (by decide +kernel) (by decide +kernel)
set_option maxRecDepth 20000 in
theorem gX1_crash_X0_length_n66 : GoodIn wsX1_crash (wsX0_length) := ggX1_crash_X0_length
set_option maxRecDepth 20000 in
theorem ggX1_crash_X0_setLength : GoodIn wsX1_crash wsX0_setLength := goodIn_r _ [25, 20, 26, 27, 28, 29, 30, 31, 32, 10, 41, 42, 43, 44, 45] (by decide +kernel) (by decide +kernel)
set_option maxRecDepth 20000 in
theorem gX1_crash_X0_setLength_n72 : GoodIn wsX1_crash (wsX0_setLength) := ggX1_crash_X0_setLength
theorem dX1_crash_0 : decode cX1_crash 0 = .ok (.iload_n 1, 1) := by decide +kernel
theorem dX1_crash_1 : decode cX1_crash 1 = .ok (.invokestatic 63, 3) := by decide +kernel
theorem dX1_crash_4 : decode cX1_crash 4 = .ok (.ifCond .eq 20, 3) := by decide +kernel
theorem dX1_crash_7 : decode cX1_crash 7 = .ok (.iload_n 2, 1) := by decide +kernel
theorem dX1_crash_8 : decode cX1_crash 8 = .ok (.ifCond .lt 16, 3) := by decide +kernel
theorem dX1_crash_11 : decode cX1_crash 11 = .ok (.iload_n 2, 1) := by decide +kernel
theorem dX1_crash_12 : decode cX1_crash 12 = .ok (.aload_n 0, 1) := by decide +kernel
theorem dX1_crash_13 : decode cX1_crash 13 = .ok (.getfield 15, 3) := by decide +kernel
theorem dX1_crash_16 : decode cX1_crash 16 = .ok (.iload_n 1, 1) := by decide +kernel
theorem dX1_crash_17 : decode cX1_crash 17 = .ok (.aaload, 1) := by decide +kernel
theorem dX1_crash_18 : decode cX1_crash 18 = .ok (.invokevirtual 66, 3) := by decide +kernel
theorem dX1_crash_21 : decode cX1_crash 21 = .ok (.if_icmp .lt 5, 3) := by decide +kernel
theorem dX1_crash_24 : decode cX1_crash 24 = .ok (.iconst 0, 1) := by decide +kernel
theorem dX1_crash_25 : decode cX1_crash 25 = .ok (.ireturn, 1) := by decide +kernel
theorem dX1_crash_26 : decode cX1_crash 26 = .ok (.aload_n 0, 1) := by decide +kernel
theorem dX1_crash_27 : decode cX1_crash 27 = .ok (.invokevirtual 69, 3) := by decide +kernel
theorem dX1_crash_30 : decode cX1_crash 30 = .ok (.aload_n 0, 1) := by decide +kernel
theorem dX1_crash_31 : decode cX1_crash 31 = .ok (.getfield 15, 3) := by decide +kernel
theorem dX1_crash_34 : decode cX1_crash 34 = .ok (.iload_n 1, 1) := by decide +kernel
theorem dX1_crash_35 : decode cX1_crash 35 = .ok (.aaload, 1) := by decide +kernel
theorem dX1_crash_36 : decode cX1_crash 36 = .ok (.iload_n 2, 1) := by decide +kernel
theorem dX1_crash_37 : decode cX1_crash 37 = .ok (.invokevirtual 72, 3) := by decide +kernel
theorem dX1_crash_40 : decode cX1_crash 40 = .ok (.iconst 1, 1) := by decide +kernel
theorem dX1_crash_41 : decode cX1_crash 41 = .ok (.ireturn, 1) := by decide +kernel
set_option maxRecDepth 20000 in
theorem ggX1_lose_X1_crash : GoodIn wsX1_lose wsX1_crash := goodIn_r _ [5, 6, 7, 8, 4, 9, 10, 11, 12, 13, 14, 15, 16, 17, 18, 19, 20, 21, 22, 23, 24, 25, 26, 27, 28, 29, 30, 31, 32, 33, 34, 35, 36, 37, 38, 39, 40, 41, 42, 43, 44, 45, 46, 47, 48, 49] (by decide +kernel) (by decide +kernel)
set_option maxRecDepth 20000 in
theorem gX1_lose_X1_crash : GoodIn wsX1_lose (wsV RX1 76 RX1 yX1_crash wsX1_crash) := goodIn_app (goodIn_of _ (by decide +kernel)) ggX1_lose_X1_crash
theorem dX1_lose_0 : decode cX1_lose 0 = .ok (.aload_n 0, 1) := by decide +kernel
theorem dX1_lose_1 : decode cX1_lose 1 = .ok (.iload_n 1, 1) := by decide +kernel
theorem dX1_lose_2 : decode cX1_lose 2 = .ok (.iconst 0, 1) := by decide +kernel
theorem dX1_lose_3 : decode cX1_lose 3 = .ok (.invokevirtual 76, 3) := by decide +kernel
theorem dX1_lose_6 : decode cX1_lose 6 = .ok (.ireturn, 1) := by decide +kernel
set_option maxRecDepth 20000 in
theorem ggX1_poke_X1_isFile : GoodIn wsX1_poke wsX1_isFile := goodIn_r _ [5] (by decide +kernel) (by decide +kernel)
set_option maxRecDepth 20000 in
theorem gX1_poke_X1_isFile : GoodIn wsX1_poke (va_wsS RX1 63 yX1_isFile wsX1_isFile) := goodIn_app (goodIn_of _ (by decide +kernel)) ggX1_poke_X1_isFile
set_option maxRecDepth 20000 in
theorem ggX1_poke_X0_has : GoodIn wsX1_poke wsX0_has := goodIn_r _ [9, 10, 38, 39, 40, 41, 42] (by decide +kernel) (by decide +kernel)
set_option maxRecDepth 20000 in
theorem gX1_poke_X0_has_n79 : GoodIn wsX1_poke (wsX0_has) := ggX1_poke_X0_has
set_option maxRecDepth 20000 in
theorem ggX1_poke_X0_get : GoodIn wsX1_poke wsX0_get := goodIn_r _ [25, 10, 20, 38, 39, 40, 41, 42] (by decide +kernel) (by decide +kernel)
set_option maxRecDepth 20000 in
theorem gX1_poke_X0_get_n82 : GoodIn wsX1_poke (wsX0_get) := ggX1_poke_X0_get
theorem dX1_poke_0 : decode cX1_poke 0 = .ok (.iload_n 1, 1) := by decide +kernel
theorem dX1_poke_1 : decode cX1_poke 1 = .ok (.invokestatic 63, 3) := by decide +kernel
theorem dX1_poke_4 : decode cX1_poke 4 = .ok (.ifCond .eq 28, 3) := by decide +kernel
theorem dX1_poke_7 : decode cX1_poke 7 = .ok (.aload_n 0, 1) := by decide +kernel
theorem dX1_poke_8 : decode cX1_poke 8 = .ok (.getfield 15, 3) := by decide +kernel
theorem dX1_poke_11 : decode cX1_poke 11 = .ok (.iload_n 1, 1) := by decide +kernel
theorem dX1_poke_12 : decode cX1_poke 12 = .ok (.aaload, 1) := by decide +kernel
theorem dX1_poke_13 : decode cX1_poke 13 = .ok (.iload_n 2, 1) := by decide +kernel
theorem dX1_poke_14 : decode cX1_poke 14 = .ok (.invokevirtual 79, 3) := by decide +kernel
theorem dX1_poke_17 : decode cX1_poke 17 = .ok (.ifCond .eq 15, 3) := by decide +kernel
theorem dX1_poke_20 : decode cX1_poke 20 = .ok (.iload_n 3, 1) := by decide +kernel
theorem dX1_poke_21 : decode cX1_poke 21 = .ok (.iconst 1, 1) := by decide +kernel
theorem dX1_poke_22 : decode cX1_poke 22 = .ok (.if_icmp .lt 10, 3) := by decide +kernel
theorem dX1_poke_25 : decode cX1_poke 25 = .ok (.iload_n 3, 1) := by decide +kernel
theorem dX1_poke_26 : decode cX1_poke 26 = .ok (.sipush 255, 3) := by decide +kernel
theorem dX1_poke_29 : decode cX1_poke 29 = .ok (.if_icmp .le 5, 3) := by decide +kernel
theorem dX1_poke_32 : decode cX1_poke 32 = .ok (.iconst 0, 1) := by decide +kernel
theorem dX1_poke_33 : decode cX1_poke 33 = .ok (.ireturn, 1) := by decide +kernel
theorem dX1_poke_34 : decode cX1_poke 34 = .ok (.aload_n 0, 1) := by decide +kernel
theorem dX1_poke_35 : decode cX1_poke 35 = .ok (.invokevirtual 69, 3) := by decide +kernel
theorem dX1_poke_38 : decode cX1_poke 38 = .ok (.aload_n 0, 1) := by decide +kernel
theorem dX1_poke_39 : decode cX1_poke 39 = .ok (.getfield 15, 3) := by decide +kernel
theorem dX1_poke_42 : decode cX1_poke 42 = .ok (.iload_n 1, 1) := by decide +kernel
theorem dX1_poke_43 : decode cX1_poke 43 = .ok (.aaload, 1) := by decide +kernel
theorem dX1_poke_44 : decode cX1_poke 44 = .ok (.iload_n 2, 1) := by decide +kernel
theorem dX1_poke_45 : decode cX1_poke 45 = .ok (.aload_n 0, 1) := by decide +kernel
theorem dX1_poke_46 : decode cX1_poke 46 = .ok (.getfield 15, 3) := by decide +kernel
theorem dX1_poke_49 : decode cX1_poke 49 = .ok (.iload_n 1, 1) := by decide +kernel
theorem dX1_poke_50 : decode cX1_poke 50 = .ok (.aaload, 1) := by decide +kernel
theorem dX1_poke_51 : decode cX1_poke 51 = .ok (.iload_n 2, 1) := by decide +kernel
theorem dX1_poke_52 : decode cX1_poke 52 = .ok (.invokevirtual 82, 3) := by decide +kernel
theorem dX1_poke_55 : decode cX1_poke 55 = .ok (.iload_n 3, 1) := by decide +kernel
theorem dX1_poke_56 : decode cX1_poke 56 = .ok (.ixor, 1) := by decide +kernel
theorem dX1_poke_57 : decode cX1_poke 57 = .ok (.invokevirtual 85, 3) := by decide +kernel
theorem dX1_poke_60 : decode cX1_poke 60 = .ok (.iconst 1, 1) := by decide +kernel
theorem dX1_poke_61 : decode cX1_poke 61 = .ok (.ireturn, 1) := by decide +kernel
set_option maxRecDepth 20000 in
theorem ggX1_reopen_X1_stripeCount : GoodIn wsX1_reopen wsX1_stripeCount := goodIn_r _ [7, 1, 8, 9, 10, 11, 12, 13, 14, 15, 16, 89, 90, 91, 92, 93, 94, 95, 96, 97, 98, 99, 100, 101] (by decide +kernel) (by decide +kernel)
set_option maxRecDepth 20000 in
theorem gX1_reopen_X1_stripeCount : GoodIn wsX1_reopen (wsV RX1 56 RX1 yX1_stripeCount wsX1_stripeCount) := goodIn_app (goodIn_of _ (by decide +kernel)) ggX1_reopen_X1_stripeCount
set_option maxRecDepth 20000 in
theorem ggX1_reopen_X0_setLength : GoodIn wsX1_reopen wsX0_setLength := goodIn_r _ [62, 33, 63, 64, 10, 65, 66, 9, 11, 16, 97, 98, 99, 100, 101] (by decide +kernel) (by decide +kernel)
set_option maxRecDepth 20000 in
theorem gX1_reopen_X0_setLength_n72 : GoodIn wsX1_reopen (wsX0_setLength) := ggX1_reopen_X0_setLength
set_option maxRecDepth 20000 in
theorem ggX1_reopen_X1_readableRowsWithContents : GoodIn wsX1_reopen wsX1_readableRowsWithContents := goodIn_r _ [81, 3, 4, 5, 6, 7, 1, 8, 9, 10, 11, 12, 13, 14, 15, 16, 82, 83, 84, 85, 86, 87, 88, 22, 23, 24, 25, 26, 27, 28, 29, 30, 31, 32, 33, 34, 35, 36, 37, 38, 39, 40, 41, 42, 43, 44, 45, 46, 47, 48, 49, 50, 51, 67, 68, 69, 70, 89, 90, 91, 92, 93, 94, 95, 96, 97, 98, 99, 100, 101] (by decide +kernel) (by decide +kernel)
set_option maxRecDepth 20000 in
theorem gX1_reopen_X1_readableRowsWithContents : GoodIn wsX1_reopen (wsV RX1 91 RX1 yX1_readableRowsWithContents wsX1_readableRowsWithContents) := goodIn_app (goodIn_of _ (by decide +kernel)) ggX1_reopen_X1_readableRowsWithContents
theorem dX1_reopen_0 : decode cX1_reopen 0 = .ok (.aload_n 0, 1) := by decide +kernel
theorem dX1_reopen_1 : decode cX1_reopen 1 = .ok (.invokevirtual 56, 3) := by decide +kernel
theorem dX1_reopen_4 : decode cX1_reopen 4 = .ok (.istore_n 1, 1) := by decide +kernel
theorem dX1_reopen_5 : decode cX1_reopen 5 = .ok (.iconst 0, 1) := by decide +kernel
theorem dX1_reopen_6 : decode cX1_reopen 6 = .ok (.istore_n 2, 1) := by decide +kernel
theorem dX1_reopen_7 : decode cX1_reopen 7 = .ok (.iload_n 2, 1) := by decide +kernel
theorem dX1_reopen_8 : decode cX1_reopen 8 = .ok (.iload_n 1, 1) := by decide +kernel
theorem dX1_reopen_9 : decode cX1_reopen 9 = .ok (.if_icmp .ge 28, 3) := by decide +kernel
theorem dX1_reopen_12 : decode cX1_reopen 12 = .ok (.iconst 0, 1) := by decide +kernel
theorem dX1_reopen_13 : decode cX1_reopen 13 = .ok (.istore_n 3, 1) := by decide +kernel
theorem dX1_reopen_14 : decode cX1_reopen 14 = .ok (.iload_n 3, 1) := by decide +kernel
theorem dX1_reopen_15 : decode cX1_reopen 15 = .ok (.iconst 3, 1) := by decide +kernel
theorem dX1_reopen_16 : decode cX1_reopen 16 = .ok (.if_icmp .ge 15, 3) := by decide +kernel
theorem dX1_reopen_19 : decode cX1_reopen 19 = .ok (.aload_n 0, 1) := by decide +kernel
theorem dX1_reopen_20 : decode cX1_reopen 20 = .ok (.iload_n 3, 1) := by decide +kernel
theorem dX1_reopen_21 : decode cX1_reopen 21 = .ok (.iload_n 2, 1) := by decide +kernel
theorem dX1_reopen_22 : decode cX1_reopen 22 = .ok (.invokevirtual 88, 3) := by decide +kernel
theorem dX1_reopen_25 : decode cX1_reopen 25 = .ok (.iinc 3 1, 3) := by decide +kernel
theorem dX1_reopen_28 : decode cX1_reopen 28 = .ok (.goto (-14), 3) := by decide +kernel
theorem dX1_reopen_31 : decode cX1_reopen 31 = .ok (.iinc 2 1, 3) := by decide +kernel
theorem dX1_reopen_34 : decode cX1_reopen 34 = .ok (.goto (-27), 3) := by decide +kernel
theorem dX1_reopen_37 : decode cX1_reopen 37 = .ok (.iconst 0, 1) := by decide +kernel
theorem dX1_reopen_38 : decode cX1_reopen 38 = .ok (.istore_n 2, 1) := by decide +kernel
theorem dX1_reopen_39 : decode cX1_reopen 39 = .ok (.iload_n 2, 1) := by decide +kernel
theorem dX1_reopen_40 : decode cX1_reopen 40 = .ok (.iconst 3, 1) := by decide +kernel
theorem dX1_reopen_41 : decode cX1_reopen 41 = .ok (.if_icmp .ge 22, 3) := by decide +kernel
theorem dX1_reopen_44 : decode cX1_reopen 44 = .ok (.aload_n 0, 1) := by decide +kernel
theorem dX1_reopen_45 : decode cX1_reopen 45 = .ok (.getfield 15, 3) := by decide +kernel
theorem dX1_reopen_48 : decode cX1_reopen 48 = .ok (.iload_n 2, 1) := by decide +kernel
theorem dX1_reopen_49 : decode cX1_reopen 49 = .ok (.aaload, 1) := by decide +kernel
theorem dX1_reopen_50 : decode cX1_reopen 50 = .ok (.iload_n 1, 1) := by decide +kernel
theorem dX1_reopen_51 : decode cX1_reopen 51 = .ok (.bipush 24, 2) := by decide +kernel
theorem dX1_reopen_53 : decode cX1_reopen 53 = .ok (.imul, 1) := by decide +kernel
theorem dX1_reopen_54 : decode cX1_reopen 54 = .ok (.invokevirtual 72, 3) := by decide +kernel
theorem dX1_reopen_57 : decode cX1_reopen 57 = .ok (.iinc 2 1, 3) := by decide +kernel
theorem dX1_reopen_60 : decode cX1_reopen 60 = .ok (.goto (-21), 3) := by decide +kernel
theorem dX1_reopen_63 : decode cX1_reopen 63 = .ok (.aload_n 0, 1) := by decide +kernel
theorem dX1_reopen_64 : decode cX1_reopen 64 = .ok (.iconst 0, 1) := by decide +kernel
theorem dX1_reopen_65 : decode cX1_reopen 65 = .ok (.putfield 29, 3) := by decide +kernel
theorem dX1_reopen_68 : decode cX1_reopen 68 = .ok (.aload_n 0, 1) := by decide +kernel
theorem dX1_reopen_69 : decode cX1_reopen 69 = .ok (.invokevirtual 91, 3) := by decide +kernel
theorem dX1_reopen_72 : decode cX1_reopen 72 = .ok (.ireturn, 1) := by decide +kernel
set_option maxRecDepth 20000 in
theorem ggX1_scrub_X1_stripeCount : GoodIn wsX1_scrub wsX1_stripeCount := goodIn_r _ [10, 11, 12, 13, 4, 14, 15, 16, 17, 18, 19, 83, 84, 85, 86, 87, 88, 89, 90, 91, 92, 93, 94, 95] (by decide +kernel) (by decide +kernel)
set_option maxRecDepth 20000 in
theorem gX1_scrub_X1_stripeCount : GoodIn wsX1_scrub (wsV RX1 56 RX1 yX1_stripeCount wsX1_stripeCount) := goodIn_app (goodIn_of _ (by decide +kernel)) ggX1_scrub_X1_stripeCount
set_option maxRecDepth 20000 in
theorem ggX1_scrub_X1_allFilesReach : GoodIn wsX1_scrub wsX1_allFilesReach := goodIn_r _ [23, 11, 15, 16, 17, 18, 19, 83, 84, 85, 86, 87, 88, 89, 90, 91, 92, 93, 94, 95] (by decide +kernel) (by decide +kernel)
set_option maxRecDepth 20000 in
theorem gX1_scrub_X1_allFilesReach : GoodIn wsX1_scrub (wsV RX1 94 RX1 yX1_allFilesReach wsX1_allFilesReach) := goodIn_app (goodIn_of _ (by decide +kernel)) ggX1_scrub_X1_allFilesReach
theorem dX1_scrub_0 : decode cX1_scrub 0 = .ok (.aload_n 0, 1) := by decide +kernel
theorem dX1_scrub_1 : decode cX1_scrub 1 = .ok (.invokevirtual 56, 3) := by decide +kernel
theorem dX1_scrub_4 : decode cX1_scrub 4 = .ok (.istore_n 2, 1) := by decide +kernel
theorem dX1_scrub_5 : decode cX1_scrub 5 = .ok (.iload_n 1, 1) := by decide +kernel
theorem dX1_scrub_6 : decode cX1_scrub 6 = .ok (.iconst 1, 1) := by decide +kernel
theorem dX1_scrub_7 : decode cX1_scrub 7 = .ok (.if_icmp .lt 14, 3) := by decide +kernel
theorem dX1_scrub_10 : decode cX1_scrub 10 = .ok (.aload_n 0, 1) := by decide +kernel
theorem dX1_scrub_11 : decode cX1_scrub 11 = .ok (.iload_n 2, 1) := by decide +kernel
theorem dX1_scrub_12 : decode cX1_scrub 12 = .ok (.bipush 24, 2) := by decide +kernel
theorem dX1_scrub_14 : decode cX1_scrub 14 = .ok (.imul, 1) := by decide +kernel
theorem dX1_scrub_15 : decode cX1_scrub 15 = .ok (.invokevirtual 94, 3) := by decide +kernel
theorem dX1_scrub_18 : decode cX1_scrub 18 = .ok (.ifCond .ne 5, 3) := by decide +kernel
theorem dX1_scrub_21 : decode cX1_scrub 21 = .ok (.iconst (-1), 1) := by decide +kernel
theorem dX1_scrub_22 : decode cX1_scrub 22 = .ok (.ireturn, 1) := by decide +kernel
theorem dX1_scrub_23 : decode cX1_scrub 23 = .ok (.iload_n 2, 1) := by decide +kernel
theorem dX1_scrub_24 : decode cX1_scrub 24 = .ok (.ifCond .ne 5, 3) := by decide +kernel
theorem dX1_scrub_27 : decode cX1_scrub 27 = .ok (.iconst 0, 1) := by decide +kernel
theorem dX1_scrub_28 : decode cX1_scrub 28 = .ok (.ireturn, 1) := by decide +kernel
theorem dX1_scrub_29 : decode cX1_scrub 29 = .ok (.iload_n 2, 1) := by decide +kernel
theorem dX1_scrub_30 : decode cX1_scrub 30 = .ok (.iconst 3, 1) := by decide +kernel
theorem dX1_scrub_31 : decode cX1_scrub 31 = .ok (.imul, 1) := by decide +kernel
theorem dX1_scrub_32 : decode cX1_scrub 32 = .ok (.istore_n 3, 1) := by decide +kernel
theorem dX1_scrub_33 : decode cX1_scrub 33 = .ok (.aload_n 0, 1) := by decide +kernel
theorem dX1_scrub_34 : decode cX1_scrub 34 = .ok (.getfield 97, 3) := by decide +kernel
theorem dX1_scrub_37 : decode cX1_scrub 37 = .ok (.iload_n 3, 1) := by decide +kernel
theorem dX1_scrub_38 : decode cX1_scrub 38 = .ok (.if_icmp .ge 10, 3) := by decide +kernel
theorem dX1_scrub_41 : decode cX1_scrub 41 = .ok (.aload_n 0, 1) := by decide +kernel
theorem dX1_scrub_42 : decode cX1_scrub 42 = .ok (.getfield 97, 3) := by decide +kernel
theorem dX1_scrub_45 : decode cX1_scrub 45 = .ok (.goto 4, 3) := by decide +kernel
theorem dX1_scrub_48 : decode cX1_scrub 48 = .ok (.iconst 0, 1) := by decide +kernel
theorem dX1_scrub_49 : decode cX1_scrub 49 = .ok (.istore 4, 2) := by decide +kernel
theorem dX1_scrub_51 : decode cX1_scrub 51 = .ok (.iload_n 1, 1) := by decide +kernel
theorem dX1_scrub_52 : decode cX1_scrub 52 = .ok (.iload_n 3, 1) := by decide +kernel
theorem dX1_scrub_53 : decode cX1_scrub 53 = .ok (.invokestatic 100, 3) := by decide +kernel
theorem dX1_scrub_56 : decode cX1_scrub 56 = .ok (.istore 5, 2) := by decide +kernel
theorem dX1_scrub_58 : decode cX1_scrub 58 = .ok (.iconst 0, 1) := by decide +kernel
theorem dX1_scrub_59 : decode cX1_scrub 59 = .ok (.istore 6, 2) := by decide +kernel
theorem dX1_scrub_61 : decode cX1_scrub 61 = .ok (.iload 6, 2) := by decide +kernel
theorem dX1_scrub_63 : decode cX1_scrub 63 = .ok (.iload 5, 2) := by decide +kernel
theorem dX1_scrub_65 : decode cX1_scrub 65 = .ok (.if_icmp .ge 30, 3) := by decide +kernel
theorem dX1_scrub_68 : decode cX1_scrub 68 = .ok (.iload 4, 2) := by decide +kernel
theorem dX1_scrub_70 : decode cX1_scrub 70 = .ok (.iload 6, 2) := by decide +kernel
theorem dX1_scrub_72 : decode cX1_scrub 72 = .ok (.iadd, 1) := by decide +kernel
theorem dX1_scrub_73 : decode cX1_scrub 73 = .ok (.iload_n 3, 1) := by decide +kernel
theorem dX1_scrub_74 : decode cX1_scrub 74 = .ok (.irem, 1) := by decide +kernel
theorem dX1_scrub_75 : decode cX1_scrub 75 = .ok (.istore 7, 2) := by decide +kernel
theorem dX1_scrub_77 : decode cX1_scrub 77 = .ok (.aload_n 0, 1) := by decide +kernel
theorem dX1_scrub_78 : decode cX1_scrub 78 = .ok (.iload 7, 2) := by decide +kernel
theorem dX1_scrub_80 : decode cX1_scrub 80 = .ok (.iconst 3, 1) := by decide +kernel
theorem dX1_scrub_81 : decode cX1_scrub 81 = .ok (.irem, 1) := by decide +kernel
theorem dX1_scrub_82 : decode cX1_scrub 82 = .ok (.iload 7, 2) := by decide +kernel
theorem dX1_scrub_84 : decode cX1_scrub 84 = .ok (.iconst 3, 1) := by decide +kernel
theorem dX1_scrub_85 : decode cX1_scrub 85 = .ok (.idiv, 1) := by decide +kernel
theorem dX1_scrub_86 : decode cX1_scrub 86 = .ok (.invokevirtual 88, 3) := by decide +kernel
theorem dX1_scrub_89 : decode cX1_scrub 89 = .ok (.iinc 6 1, 3) := by decide +kernel
theorem dX1_scrub_92 : decode cX1_scrub 92 = .ok (.goto (-31), 3) := by decide +kernel
theorem dX1_scrub_95 : decode cX1_scrub 95 = .ok (.aload_n 0, 1) := by decide +kernel
theorem dX1_scrub_96 : decode cX1_scrub 96 = .ok (.iload 4, 2) := by decide +kernel
theorem dX1_scrub_98 : decode cX1_scrub 98 = .ok (.iload_n 1, 1) := by decide +kernel
theorem dX1_scrub_99 : decode cX1_scrub 99 = .ok (.iload_n 3, 1) := by decide +kernel
theorem dX1_scrub_100 : decode cX1_scrub 100 = .ok (.irem, 1) := by decide +kernel
theorem dX1_scrub_101 : decode cX1_scrub 101 = .ok (.iadd, 1) := by decide +kernel
theorem dX1_scrub_102 : decode cX1_scrub 102 = .ok (.iload_n 3, 1) := by decide +kernel
theorem dX1_scrub_103 : decode cX1_scrub 103 = .ok (.irem, 1) := by decide +kernel
theorem dX1_scrub_104 : decode cX1_scrub 104 = .ok (.putfield 97, 3) := by decide +kernel
theorem dX1_scrub_107 : decode cX1_scrub 107 = .ok (.iload_n 1, 1) := by decide +kernel
theorem dX1_scrub_108 : decode cX1_scrub 108 = .ok (.ireturn, 1) := by decide +kernel
theorem dX1_mended_0 : decode cX1_mended 0 = .ok (.aload_n 0, 1) := by decide +kernel
theorem dX1_mended_1 : decode cX1_mended 1 = .ok (.getfield 105, 3) := by decide +kernel
theorem dX1_mended_4 : decode cX1_mended 4 = .ok (.ireturn, 1) := by decide +kernel
set_option maxRecDepth 20000 in
theorem ggX1_badAt_X1_stripeCount : GoodIn wsX1_badAt wsX1_stripeCount := goodIn_r _ [5, 6, 7, 8, 9, 10, 11, 12, 13, 14, 15, 46, 47, 48, 49, 50, 51, 52, 53, 54, 55, 56, 57, 58] (by decide +kernel) (by decide +kernel)
set_option maxRecDepth 20000 in
theorem gX1_badAt_X1_stripeCount : GoodIn wsX1_badAt (wsV RX1 56 RX1 yX1_stripeCount wsX1_stripeCount) := goodIn_app (goodIn_of _ (by decide +kernel)) ggX1_badAt_X1_stripeCount
theorem dX1_badAt_0 : decode cX1_badAt 0 = .ok (.aload_n 0, 1) := by decide +kernel
theorem dX1_badAt_1 : decode cX1_badAt 1 = .ok (.invokevirtual 56, 3) := by decide +kernel
theorem dX1_badAt_4 : decode cX1_badAt 4 = .ok (.istore_n 1, 1) := by decide +kernel
theorem dX1_badAt_5 : decode cX1_badAt 5 = .ok (.iconst 0, 1) := by decide +kernel
theorem dX1_badAt_6 : decode cX1_badAt 6 = .ok (.istore_n 2, 1) := by decide +kernel
theorem dX1_badAt_7 : decode cX1_badAt 7 = .ok (.iload_n 2, 1) := by decide +kernel
theorem dX1_badAt_8 : decode cX1_badAt 8 = .ok (.iload_n 1, 1) := by decide +kernel
theorem dX1_badAt_9 : decode cX1_badAt 9 = .ok (.if_icmp .ge 22, 3) := by decide +kernel
theorem dX1_badAt_12 : decode cX1_badAt 12 = .ok (.aload_n 0, 1) := by decide +kernel
theorem dX1_badAt_13 : decode cX1_badAt 13 = .ok (.iload_n 2, 1) := by decide +kernel
theorem dX1_badAt_14 : decode cX1_badAt 14 = .ok (.invokevirtual 108, 3) := by decide +kernel
theorem dX1_badAt_17 : decode cX1_badAt 17 = .ok (.iconst 2, 1) := by decide +kernel
theorem dX1_badAt_18 : decode cX1_badAt 18 = .ok (.if_icmp .ge 7, 3) := by decide +kernel
theorem dX1_badAt_21 : decode cX1_badAt 21 = .ok (.iload_n 2, 1) := by decide +kernel
theorem dX1_badAt_22 : decode cX1_badAt 22 = .ok (.iconst 1, 1) := by decide +kernel
theorem dX1_badAt_23 : decode cX1_badAt 23 = .ok (.iadd, 1) := by decide +kernel
theorem dX1_badAt_24 : decode cX1_badAt 24 = .ok (.ireturn, 1) := by decide +kernel
theorem dX1_badAt_25 : decode cX1_badAt 25 = .ok (.iinc 2 1, 3) := by decide +kernel
theorem dX1_badAt_28 : decode cX1_badAt 28 = .ok (.goto (-21), 3) := by decide +kernel
theorem dX1_badAt_31 : decode cX1_badAt 31 = .ok (.iconst 0, 1) := by decide +kernel
theorem dX1_badAt_32 : decode cX1_badAt 32 = .ok (.ireturn, 1) := by decide +kernel
set_option maxRecDepth 20000 in
theorem ggX1_byteAt_X1_isFile : GoodIn wsX1_byteAt wsX1_isFile := goodIn_r _ [9] (by decide +kernel) (by decide +kernel)
set_option maxRecDepth 20000 in
theorem gX1_byteAt_X1_isFile : GoodIn wsX1_byteAt (va_wsS RX1 63 yX1_isFile wsX1_isFile) := goodIn_app (goodIn_of _ (by decide +kernel)) ggX1_byteAt_X1_isFile
set_option maxRecDepth 20000 in
theorem ggX1_byteAt_X0_get : GoodIn wsX1_byteAt wsX0_get := goodIn_r _ [13, 14, 15, 30, 31, 32, 33, 34] (by decide +kernel) (by decide +kernel)
set_option maxRecDepth 20000 in
theorem gX1_byteAt_X0_get_n82 : GoodIn wsX1_byteAt (wsX0_get) := ggX1_byteAt_X0_get
theorem dX1_byteAt_0 : decode cX1_byteAt 0 = .ok (.iload_n 1, 1) := by decide +kernel
theorem dX1_byteAt_1 : decode cX1_byteAt 1 = .ok (.invokestatic 63, 3) := by decide +kernel
theorem dX1_byteAt_4 : decode cX1_byteAt 4 = .ok (.ifCond .eq 25, 3) := by decide +kernel
theorem dX1_byteAt_7 : decode cX1_byteAt 7 = .ok (.iload_n 2, 1) := by decide +kernel
theorem dX1_byteAt_8 : decode cX1_byteAt 8 = .ok (.ifCond .lt 21, 3) := by decide +kernel
theorem dX1_byteAt_11 : decode cX1_byteAt 11 = .ok (.iload_n 2, 1) := by decide +kernel
theorem dX1_byteAt_12 : decode cX1_byteAt 12 = .ok (.aload_n 0, 1) := by decide +kernel
theorem dX1_byteAt_13 : decode cX1_byteAt 13 = .ok (.getfield 9, 3) := by decide +kernel
theorem dX1_byteAt_16 : decode cX1_byteAt 16 = .ok (.if_icmp .ge 13, 3) := by decide +kernel
theorem dX1_byteAt_19 : decode cX1_byteAt 19 = .ok (.iload_n 3, 1) := by decide +kernel
theorem dX1_byteAt_20 : decode cX1_byteAt 20 = .ok (.ifCond .lt 9, 3) := by decide +kernel
theorem dX1_byteAt_23 : decode cX1_byteAt 23 = .ok (.iload_n 3, 1) := by decide +kernel
theorem dX1_byteAt_24 : decode cX1_byteAt 24 = .ok (.bipush 24, 2) := by decide +kernel
theorem dX1_byteAt_26 : decode cX1_byteAt 26 = .ok (.if_icmp .lt 13, 3) := by decide +kernel
theorem dX1_byteAt_29 : decode cX1_byteAt 29 = .ok (.new 111, 3) := by decide +kernel
theorem dX1_byteAt_32 : decode cX1_byteAt 32 = .ok (.dup, 1) := by decide +kernel
theorem dX1_byteAt_33 : decode cX1_byteAt 33 = .ok (.ldc 113, 2) := by decide +kernel
theorem dX1_byteAt_35 : decode cX1_byteAt 35 = .ok (.invokespecial 115, 3) := by decide +kernel
theorem dX1_byteAt_38 : decode cX1_byteAt 38 = .ok (.athrow, 1) := by decide +kernel
theorem dX1_byteAt_39 : decode cX1_byteAt 39 = .ok (.aload_n 0, 1) := by decide +kernel
theorem dX1_byteAt_40 : decode cX1_byteAt 40 = .ok (.getfield 15, 3) := by decide +kernel
theorem dX1_byteAt_43 : decode cX1_byteAt 43 = .ok (.iload_n 1, 1) := by decide +kernel
theorem dX1_byteAt_44 : decode cX1_byteAt 44 = .ok (.aaload, 1) := by decide +kernel
theorem dX1_byteAt_45 : decode cX1_byteAt 45 = .ok (.iload_n 2, 1) := by decide +kernel
theorem dX1_byteAt_46 : decode cX1_byteAt 46 = .ok (.bipush 24, 2) := by decide +kernel
theorem dX1_byteAt_48 : decode cX1_byteAt 48 = .ok (.imul, 1) := by decide +kernel
theorem dX1_byteAt_49 : decode cX1_byteAt 49 = .ok (.iload_n 3, 1) := by decide +kernel
theorem dX1_byteAt_50 : decode cX1_byteAt 50 = .ok (.iadd, 1) := by decide +kernel
theorem dX1_byteAt_51 : decode cX1_byteAt 51 = .ok (.invokevirtual 82, 3) := by decide +kernel
theorem dX1_byteAt_54 : decode cX1_byteAt 54 = .ok (.ireturn, 1) := by decide +kernel
set_option maxRecDepth 20000 in
theorem ggX1_same_X1_isFile : GoodIn wsX1_same wsX1_isFile := goodIn_r _ [6] (by decide +kernel) (by decide +kernel)
set_option maxRecDepth 20000 in
theorem gX1_same_X1_isFile : GoodIn wsX1_same (va_wsS RX1 63 yX1_isFile wsX1_isFile) := goodIn_app (goodIn_of _ (by decide +kernel)) ggX1_same_X1_isFile
theorem dX1_same_0 : decode cX1_same 0 = .ok (.iload_n 1, 1) := by decide +kernel
theorem dX1_same_1 : decode cX1_same 1 = .ok (.invokestatic 63, 3) := by decide +kernel
theorem dX1_same_4 : decode cX1_same 4 = .ok (.ifCond .eq 26, 3) := by decide +kernel
theorem dX1_same_7 : decode cX1_same 7 = .ok (.aload_n 0, 1) := by decide +kernel
theorem dX1_same_8 : decode cX1_same 8 = .ok (.getfield 118, 3) := by decide +kernel
theorem dX1_same_11 : decode cX1_same 11 = .ok (.ifCond .eq 15, 3) := by decide +kernel
theorem dX1_same_14 : decode cX1_same 14 = .ok (.aload_n 0, 1) := by decide +kernel
theorem dX1_same_15 : decode cX1_same 15 = .ok (.getfield 15, 3) := by decide +kernel
theorem dX1_same_18 : decode cX1_same 18 = .ok (.iload_n 1, 1) := by decide +kernel
theorem dX1_same_19 : decode cX1_same 19 = .ok (.aaload, 1) := by decide +kernel
theorem dX1_same_20 : decode cX1_same 20 = .ok (.invokevirtual 121, 3) := by decide +kernel
theorem dX1_same_23 : decode cX1_same 23 = .ok (.ifCond .eq 7, 3) := by decide +kernel
theorem dX1_same_26 : decode cX1_same 26 = .ok (.iconst 1, 1) := by decide +kernel
theorem dX1_same_27 : decode cX1_same 27 = .ok (.goto 4, 3) := by decide +kernel
theorem dX1_same_30 : decode cX1_same 30 = .ok (.iconst 0, 1) := by decide +kernel
theorem dX1_same_31 : decode cX1_same 31 = .ok (.ireturn, 1) := by decide +kernel
set_option maxRecDepth 20000 in
theorem ggX1_odd_X1_stripeCount : GoodIn wsX1_odd wsX1_stripeCount := goodIn_r _ [5, 6, 7, 8, 9, 10, 11, 12, 13, 14, 15, 19, 20, 21, 22, 23, 24, 25, 26, 27, 28, 29, 30, 31] (by decide +kernel) (by decide +kernel)
set_option maxRecDepth 20000 in
theorem gX1_odd_X1_stripeCount : GoodIn wsX1_odd (wsV RX1 56 RX1 yX1_stripeCount wsX1_stripeCount) := goodIn_app (goodIn_of _ (by decide +kernel)) ggX1_odd_X1_stripeCount
theorem dX1_odd_0 : decode cX1_odd 0 = .ok (.iload_n 1, 1) := by decide +kernel
theorem dX1_odd_1 : decode cX1_odd 1 = .ok (.ifCond .lt 18, 3) := by decide +kernel
theorem dX1_odd_4 : decode cX1_odd 4 = .ok (.iload_n 1, 1) := by decide +kernel
theorem dX1_odd_5 : decode cX1_odd 5 = .ok (.aload_n 0, 1) := by decide +kernel
theorem dX1_odd_6 : decode cX1_odd 6 = .ok (.invokevirtual 56, 3) := by decide +kernel
theorem dX1_odd_9 : decode cX1_odd 9 = .ok (.if_icmp .ge 10, 3) := by decide +kernel
theorem dX1_odd_12 : decode cX1_odd 12 = .ok (.iload_n 1, 1) := by decide +kernel
theorem dX1_odd_13 : decode cX1_odd 13 = .ok (.invokestatic 45, 3) := by decide +kernel
theorem dX1_odd_16 : decode cX1_odd 16 = .ok (.goto 4, 3) := by decide +kernel
theorem dX1_odd_19 : decode cX1_odd 19 = .ok (.iconst (-1), 1) := by decide +kernel
theorem dX1_odd_20 : decode cX1_odd 20 = .ok (.ireturn, 1) := by decide +kernel
set_option maxRecDepth 20000 in
theorem ggX1_size_X1_isFile : GoodIn wsX1_size wsX1_isFile := goodIn_r _ [5] (by decide +kernel) (by decide +kernel)
set_option maxRecDepth 20000 in
theorem gX1_size_X1_isFile : GoodIn wsX1_size (va_wsS RX1 63 yX1_isFile wsX1_isFile) := goodIn_app (goodIn_of _ (by decide +kernel)) ggX1_size_X1_isFile
set_option maxRecDepth 20000 in
theorem ggX1_size_X0_length : GoodIn wsX1_size wsX0_length := goodIn_r _ [9, 10, 19, 20, 21, 22, 23] (by decide +kernel) (by decide +kernel)
set_option maxRecDepth 20000 in
theorem gX1_size_X0_length_n66 : GoodIn wsX1_size (wsX0_length) := ggX1_size_X0_length
theorem dX1_size_0 : decode cX1_size 0 = .ok (.iload_n 1, 1) := by decide +kernel
theorem dX1_size_1 : decode cX1_size 1 = .ok (.invokestatic 63, 3) := by decide +kernel
theorem dX1_size_4 : decode cX1_size 4 = .ok (.ifCond .eq 15, 3) := by decide +kernel
theorem dX1_size_7 : decode cX1_size 7 = .ok (.aload_n 0, 1) := by decide +kernel
theorem dX1_size_8 : decode cX1_size 8 = .ok (.getfield 15, 3) := by decide +kernel
theorem dX1_size_11 : decode cX1_size 11 = .ok (.iload_n 1, 1) := by decide +kernel
theorem dX1_size_12 : decode cX1_size 12 = .ok (.aaload, 1) := by decide +kernel
theorem dX1_size_13 : decode cX1_size 13 = .ok (.invokevirtual 66, 3) := by decide +kernel
theorem dX1_size_16 : decode cX1_size 16 = .ok (.goto 4, 3) := by decide +kernel
theorem dX1_size_19 : decode cX1_size 19 = .ok (.iconst (-1), 1) := by decide +kernel
theorem dX1_size_20 : decode cX1_size 20 = .ok (.ireturn, 1) := by decide +kernel
theorem dX1_isYear_0 : decode cX1_isYear 0 = .ok (.iload_n 0, 1) := by decide +kernel
theorem dX1_isYear_1 : decode cX1_isYear 1 = .ok (.iconst 1, 1) := by decide +kernel
theorem dX1_isYear_2 : decode cX1_isYear 2 = .ok (.if_icmp .lt 13, 3) := by decide +kernel
theorem dX1_isYear_5 : decode cX1_isYear 5 = .ok (.iload_n 0, 1) := by decide +kernel
theorem dX1_isYear_6 : decode cX1_isYear 6 = .ok (.bipush 100, 2) := by decide +kernel
theorem dX1_isYear_8 : decode cX1_isYear 8 = .ok (.if_icmp .gt 7, 3) := by decide +kernel
theorem dX1_isYear_11 : decode cX1_isYear 11 = .ok (.iconst 1, 1) := by decide +kernel
theorem dX1_isYear_12 : decode cX1_isYear 12 = .ok (.goto 4, 3) := by decide +kernel
theorem dX1_isYear_15 : decode cX1_isYear 15 = .ok (.iconst 0, 1) := by decide +kernel
theorem dX1_isYear_16 : decode cX1_isYear 16 = .ok (.ireturn, 1) := by decide +kernel
theorem dX1_isFile_0 : decode cX1_isFile 0 = .ok (.iload_n 0, 1) := by decide +kernel
theorem dX1_isFile_1 : decode cX1_isFile 1 = .ok (.ifCond .lt 12, 3) := by decide +kernel
theorem dX1_isFile_4 : decode cX1_isFile 4 = .ok (.iload_n 0, 1) := by decide +kernel
theorem dX1_isFile_5 : decode cX1_isFile 5 = .ok (.iconst 3, 1) := by decide +kernel
theorem dX1_isFile_6 : decode cX1_isFile 6 = .ok (.if_icmp .ge 7, 3) := by decide +kernel
theorem dX1_isFile_9 : decode cX1_isFile 9 = .ok (.iconst 1, 1) := by decide +kernel
theorem dX1_isFile_10 : decode cX1_isFile 10 = .ok (.goto 4, 3) := by decide +kernel
theorem dX1_isFile_13 : decode cX1_isFile 13 = .ok (.iconst 0, 1) := by decide +kernel
theorem dX1_isFile_14 : decode cX1_isFile 14 = .ok (.ireturn, 1) := by decide +kernel
set_option maxRecDepth 20000 in
theorem ggX1_stripeCount_X0_length : GoodIn wsX1_stripeCount wsX0_length := goodIn_r _ [9, 10, 19, 20, 21, 22, 23] (by decide +kernel) (by decide +kernel)
set_option maxRecDepth 20000 in
theorem gX1_stripeCount_X0_length_n66 : GoodIn wsX1_stripeCount (wsX0_length) := ggX1_stripeCount_X0_length
theorem dX1_stripeCount_0 : decode cX1_stripeCount 0 = .ok (.iconst 0, 1) := by decide +kernel
theorem dX1_stripeCount_1 : decode cX1_stripeCount 1 = .ok (.istore_n 1, 1) := by decide +kernel
theorem dX1_stripeCount_2 : decode cX1_stripeCount 2 = .ok (.iconst 0, 1) := by decide +kernel
theorem dX1_stripeCount_3 : decode cX1_stripeCount 3 = .ok (.istore_n 2, 1) := by decide +kernel
theorem dX1_stripeCount_4 : decode cX1_stripeCount 4 = .ok (.iload_n 2, 1) := by decide +kernel
theorem dX1_stripeCount_5 : decode cX1_stripeCount 5 = .ok (.iconst 3, 1) := by decide +kernel
theorem dX1_stripeCount_6 : decode cX1_stripeCount 6 = .ok (.if_icmp .ge 26, 3) := by decide +kernel
theorem dX1_stripeCount_9 : decode cX1_stripeCount 9 = .ok (.iload_n 1, 1) := by decide +kernel
theorem dX1_stripeCount_10 : decode cX1_stripeCount 10 = .ok (.aload_n 0, 1) := by decide +kernel
theorem dX1_stripeCount_11 : decode cX1_stripeCount 11 = .ok (.getfield 15, 3) := by decide +kernel
theorem dX1_stripeCount_14 : decode cX1_stripeCount 14 = .ok (.iload_n 2, 1) := by decide +kernel
theorem dX1_stripeCount_15 : decode cX1_stripeCount 15 = .ok (.aaload, 1) := by decide +kernel
theorem dX1_stripeCount_16 : decode cX1_stripeCount 16 = .ok (.invokevirtual 66, 3) := by decide +kernel
theorem dX1_stripeCount_19 : decode cX1_stripeCount 19 = .ok (.bipush 24, 2) := by decide +kernel
theorem dX1_stripeCount_21 : decode cX1_stripeCount 21 = .ok (.idiv, 1) := by decide +kernel
theorem dX1_stripeCount_22 : decode cX1_stripeCount 22 = .ok (.invokestatic 125, 3) := by decide +kernel
theorem dX1_stripeCount_25 : decode cX1_stripeCount 25 = .ok (.istore_n 1, 1) := by decide +kernel
theorem dX1_stripeCount_26 : decode cX1_stripeCount 26 = .ok (.iinc 2 1, 3) := by decide +kernel
theorem dX1_stripeCount_29 : decode cX1_stripeCount 29 = .ok (.goto (-25), 3) := by decide +kernel
theorem dX1_stripeCount_32 : decode cX1_stripeCount 32 = .ok (.iload_n 1, 1) := by decide +kernel
theorem dX1_stripeCount_33 : decode cX1_stripeCount 33 = .ok (.ireturn, 1) := by decide +kernel
set_option maxRecDepth 20000 in
theorem ggX1_allFilesReach_X0_length : GoodIn wsX1_allFilesReach wsX0_length := goodIn_r _ [5, 6, 15, 16, 17, 18, 19] (by decide +kernel) (by decide +kernel)
set_option maxRecDepth 20000 in
theorem gX1_allFilesReach_X0_length_n66 : GoodIn wsX1_allFilesReach (wsX0_length) := ggX1_allFilesReach_X0_length
theorem dX1_allFilesReach_0 : decode cX1_allFilesReach 0 = .ok (.iconst 0, 1) := by decide +kernel
theorem dX1_allFilesReach_1 : decode cX1_allFilesReach 1 = .ok (.istore_n 2, 1) := by decide +kernel
theorem dX1_allFilesReach_2 : decode cX1_allFilesReach 2 = .ok (.iload_n 2, 1) := by decide +kernel
theorem dX1_allFilesReach_3 : decode cX1_allFilesReach 3 = .ok (.iconst 3, 1) := by decide +kernel
theorem dX1_allFilesReach_4 : decode cX1_allFilesReach 4 = .ok (.if_icmp .ge 24, 3) := by decide +kernel
theorem dX1_allFilesReach_7 : decode cX1_allFilesReach 7 = .ok (.aload_n 0, 1) := by decide +kernel
theorem dX1_allFilesReach_8 : decode cX1_allFilesReach 8 = .ok (.getfield 15, 3) := by decide +kernel
theorem dX1_allFilesReach_11 : decode cX1_allFilesReach 11 = .ok (.iload_n 2, 1) := by decide +kernel
theorem dX1_allFilesReach_12 : decode cX1_allFilesReach 12 = .ok (.aaload, 1) := by decide +kernel
theorem dX1_allFilesReach_13 : decode cX1_allFilesReach 13 = .ok (.invokevirtual 66, 3) := by decide +kernel
theorem dX1_allFilesReach_16 : decode cX1_allFilesReach 16 = .ok (.iload_n 1, 1) := by decide +kernel
theorem dX1_allFilesReach_17 : decode cX1_allFilesReach 17 = .ok (.if_icmp .ge 5, 3) := by decide +kernel
theorem dX1_allFilesReach_20 : decode cX1_allFilesReach 20 = .ok (.iconst 0, 1) := by decide +kernel
theorem dX1_allFilesReach_21 : decode cX1_allFilesReach 21 = .ok (.ireturn, 1) := by decide +kernel
theorem dX1_allFilesReach_22 : decode cX1_allFilesReach 22 = .ok (.iinc 2 1, 3) := by decide +kernel
theorem dX1_allFilesReach_25 : decode cX1_allFilesReach 25 = .ok (.goto (-23), 3) := by decide +kernel
theorem dX1_allFilesReach_28 : decode cX1_allFilesReach 28 = .ok (.iconst 1, 1) := by decide +kernel
theorem dX1_allFilesReach_29 : decode cX1_allFilesReach 29 = .ok (.ireturn, 1) := by decide +kernel
set_option maxRecDepth 20000 in
theorem ggX1_readRowByte_X1_stripeCount : GoodIn wsX1_readRowByte wsX1_stripeCount := goodIn_r _ [6, 1, 7, 8, 9, 10, 11, 12, 13, 14, 15, 53, 54, 55, 56, 57, 58, 59, 60, 61, 62, 63, 64, 65] (by decide +kernel) (by decide +kernel)
set_option maxRecDepth 20000 in
theorem gX1_readRowByte_X1_stripeCount : GoodIn wsX1_readRowByte (wsV RX1 56 RX1 yX1_stripeCount wsX1_stripeCount) := goodIn_app (goodIn_of _ (by decide +kernel)) ggX1_readRowByte_X1_stripeCount
set_option maxRecDepth 20000 in
theorem ggX1_readRowByte_X0_get : GoodIn wsX1_readRowByte wsX0_get := goodIn_r _ [29, 15, 30, 61, 62, 63, 64, 65] (by decide +kernel) (by decide +kernel)
set_option maxRecDepth 20000 in
theorem gX1_readRowByte_X0_get_n82 : GoodIn wsX1_readRowByte (wsX0_get) := ggX1_readRowByte_X0_get
theorem dX1_readRowByte_0 : decode cX1_readRowByte 0 = .ok (.iload_n 1, 1) := by decide +kernel
theorem dX1_readRowByte_1 : decode cX1_readRowByte 1 = .ok (.iconst 2, 1) := by decide +kernel
theorem dX1_readRowByte_2 : decode cX1_readRowByte 2 = .ok (.idiv, 1) := by decide +kernel
theorem dX1_readRowByte_3 : decode cX1_readRowByte 3 = .ok (.istore_n 3, 1) := by decide +kernel
theorem dX1_readRowByte_4 : decode cX1_readRowByte 4 = .ok (.iload_n 1, 1) := by decide +kernel
theorem dX1_readRowByte_5 : decode cX1_readRowByte 5 = .ok (.ifCond .lt 11, 3) := by decide +kernel
theorem dX1_readRowByte_8 : decode cX1_readRowByte 8 = .ok (.iload_n 3, 1) := by decide +kernel
theorem dX1_readRowByte_9 : decode cX1_readRowByte 9 = .ok (.aload_n 0, 1) := by decide +kernel
theorem dX1_readRowByte_10 : decode cX1_readRowByte 10 = .ok (.invokevirtual 56, 3) := by decide +kernel
theorem dX1_readRowByte_13 : decode cX1_readRowByte 13 = .ok (.if_icmp .lt 5, 3) := by decide +kernel
theorem dX1_readRowByte_16 : decode cX1_readRowByte 16 = .ok (.iconst (-1), 1) := by decide +kernel
theorem dX1_readRowByte_17 : decode cX1_readRowByte 17 = .ok (.ireturn, 1) := by decide +kernel
theorem dX1_readRowByte_18 : decode cX1_readRowByte 18 = .ok (.iload_n 1, 1) := by decide +kernel
theorem dX1_readRowByte_19 : decode cX1_readRowByte 19 = .ok (.invokestatic 131, 3) := by decide +kernel
theorem dX1_readRowByte_22 : decode cX1_readRowByte 22 = .ok (.istore 4, 2) := by decide +kernel
theorem dX1_readRowByte_24 : decode cX1_readRowByte 24 = .ok (.aload_n 0, 1) := by decide +kernel
theorem dX1_readRowByte_25 : decode cX1_readRowByte 25 = .ok (.getfield 15, 3) := by decide +kernel
theorem dX1_readRowByte_28 : decode cX1_readRowByte 28 = .ok (.iload 4, 2) := by decide +kernel
theorem dX1_readRowByte_30 : decode cX1_readRowByte 30 = .ok (.aaload, 1) := by decide +kernel
theorem dX1_readRowByte_31 : decode cX1_readRowByte 31 = .ok (.iload_n 3, 1) := by decide +kernel
theorem dX1_readRowByte_32 : decode cX1_readRowByte 32 = .ok (.invokevirtual 128, 3) := by decide +kernel
theorem dX1_readRowByte_35 : decode cX1_readRowByte 35 = .ok (.ifCond .eq 20, 3) := by decide +kernel
theorem dX1_readRowByte_38 : decode cX1_readRowByte 38 = .ok (.aload_n 0, 1) := by decide +kernel
theorem dX1_readRowByte_39 : decode cX1_readRowByte 39 = .ok (.getfield 15, 3) := by decide +kernel
theorem dX1_readRowByte_42 : decode cX1_readRowByte 42 = .ok (.iload 4, 2) := by decide +kernel
theorem dX1_readRowByte_44 : decode cX1_readRowByte 44 = .ok (.aaload, 1) := by decide +kernel
theorem dX1_readRowByte_45 : decode cX1_readRowByte 45 = .ok (.iload_n 3, 1) := by decide +kernel
theorem dX1_readRowByte_46 : decode cX1_readRowByte 46 = .ok (.bipush 24, 2) := by decide +kernel
theorem dX1_readRowByte_48 : decode cX1_readRowByte 48 = .ok (.imul, 1) := by decide +kernel
theorem dX1_readRowByte_49 : decode cX1_readRowByte 49 = .ok (.iload_n 2, 1) := by decide +kernel
theorem dX1_readRowByte_50 : decode cX1_readRowByte 50 = .ok (.iadd, 1) := by decide +kernel
theorem dX1_readRowByte_51 : decode cX1_readRowByte 51 = .ok (.invokevirtual 82, 3) := by decide +kernel
theorem dX1_readRowByte_54 : decode cX1_readRowByte 54 = .ok (.ireturn, 1) := by decide +kernel
theorem dX1_readRowByte_55 : decode cX1_readRowByte 55 = .ok (.aload_n 0, 1) := by decide +kernel
theorem dX1_readRowByte_56 : decode cX1_readRowByte 56 = .ok (.iload 4, 2) := by decide +kernel
theorem dX1_readRowByte_58 : decode cX1_readRowByte 58 = .ok (.iload_n 3, 1) := by decide +kernel
theorem dX1_readRowByte_59 : decode cX1_readRowByte 59 = .ok (.invokevirtual 134, 3) := by decide +kernel
theorem dX1_readRowByte_62 : decode cX1_readRowByte 62 = .ok (.ifCond .eq 14, 3) := by decide +kernel
theorem dX1_readRowByte_65 : decode cX1_readRowByte 65 = .ok (.aload_n 0, 1) := by decide +kernel
theorem dX1_readRowByte_66 : decode cX1_readRowByte 66 = .ok (.iload 4, 2) := by decide +kernel
theorem dX1_readRowByte_68 : decode cX1_readRowByte 68 = .ok (.iload_n 3, 1) := by decide +kernel
theorem dX1_readRowByte_69 : decode cX1_readRowByte 69 = .ok (.iload_n 2, 1) := by decide +kernel
theorem dX1_readRowByte_70 : decode cX1_readRowByte 70 = .ok (.invokevirtual 137, 3) := by decide +kernel
theorem dX1_readRowByte_73 : decode cX1_readRowByte 73 = .ok (.goto 4, 3) := by decide +kernel
theorem dX1_readRowByte_76 : decode cX1_readRowByte 76 = .ok (.iconst (-1), 1) := by decide +kernel
theorem dX1_readRowByte_77 : decode cX1_readRowByte 77 = .ok (.ireturn, 1) := by decide +kernel
set_option maxRecDepth 20000 in
theorem ggX1_readableRowsWithContents_X1_stripeCount : GoodIn wsX1_readableRowsWithContents wsX1_stripeCount := goodIn_r _ [5, 6, 7, 8, 9, 10, 11, 12, 13, 14, 15, 57, 58, 59, 60, 61, 62, 63, 64, 65, 66, 67, 68, 69] (by decide +kernel) (by decide +kernel)
set_option maxRecDepth 20000 in
theorem gX1_readableRowsWithContents_X1_stripeCount : GoodIn wsX1_readableRowsWithContents (wsV RX1 56 RX1 yX1_stripeCount wsX1_stripeCount) := goodIn_app (goodIn_of _ (by decide +kernel)) ggX1_readableRowsWithContents_X1_stripeCount
set_option maxRecDepth 20000 in
theorem ggX1_readableRowsWithContents_X1_readRowByte : GoodIn wsX1_readableRowsWithContents wsX1_readRowByte := goodIn_r _ [19, 6, 1, 2, 3, 4, 5, 7, 8, 9, 10, 11, 12, 13, 14, 15, 20, 21, 22, 23, 24, 25, 26, 27, 28, 29, 30, 31, 32, 33, 34, 35, 36, 37, 38, 39, 40, 41, 42, 43, 44, 45, 46, 47, 48, 49, 50, 51, 52, 53, 54, 55, 56, 57, 58, 59, 60, 61, 62, 63, 64, 65, 66, 67, 68, 69] (by decide +kernel) (by decide +kernel)
set_option maxRecDepth 20000 in
theorem gX1_readableRowsWithContents_X1_readRowByte : GoodIn wsX1_readableRowsWithContents (wsV RX1 52 RX1 yX1_readRowByte wsX1_readRowByte) := goodIn_app (goodIn_of _ (by decide +kernel)) ggX1_readableRowsWithContents_X1_readRowByte
theorem dX1_readableRowsWithContents_0 : decode cX1_readableRowsWithContents 0 = .ok (.iconst 0, 1) := by decide +kernel
theorem dX1_readableRowsWithContents_1 : decode cX1_readableRowsWithContents 1 = .ok (.istore_n 1, 1) := by decide +kernel
theorem dX1_readableRowsWithContents_2 : decode cX1_readableRowsWithContents 2 = .ok (.aload_n 0, 1) := by decide +kernel
theorem dX1_readableRowsWithContents_3 : decode cX1_readableRowsWithContents 3 = .ok (.invokevirtual 56, 3) := by decide +kernel
theorem dX1_readableRowsWithContents_6 : decode cX1_readableRowsWithContents 6 = .ok (.iconst 2, 1) := by decide +kernel
theorem dX1_readableRowsWithContents_7 : decode cX1_readableRowsWithContents 7 = .ok (.imul, 1) := by decide +kernel
theorem dX1_readableRowsWithContents_8 : decode cX1_readableRowsWithContents 8 = .ok (.istore_n 2, 1) := by decide +kernel
theorem dX1_readableRowsWithContents_9 : decode cX1_readableRowsWithContents 9 = .ok (.iconst 0, 1) := by decide +kernel
theorem dX1_readableRowsWithContents_10 : decode cX1_readableRowsWithContents 10 = .ok (.istore_n 3, 1) := by decide +kernel
theorem dX1_readableRowsWithContents_11 : decode cX1_readableRowsWithContents 11 = .ok (.iload_n 3, 1) := by decide +kernel
theorem dX1_readableRowsWithContents_12 : decode cX1_readableRowsWithContents 12 = .ok (.iload_n 2, 1) := by decide +kernel
theorem dX1_readableRowsWithContents_13 : decode cX1_readableRowsWithContents 13 = .ok (.if_icmp .ge 21, 3) := by decide +kernel
theorem dX1_readableRowsWithContents_16 : decode cX1_readableRowsWithContents 16 = .ok (.aload_n 0, 1) := by decide +kernel
theorem dX1_readableRowsWithContents_17 : decode cX1_readableRowsWithContents 17 = .ok (.iload_n 3, 1) := by decide +kernel
theorem dX1_readableRowsWithContents_18 : decode cX1_readableRowsWithContents 18 = .ok (.iconst 3, 1) := by decide +kernel
theorem dX1_readableRowsWithContents_19 : decode cX1_readableRowsWithContents 19 = .ok (.invokevirtual 52, 3) := by decide +kernel
theorem dX1_readableRowsWithContents_22 : decode cX1_readableRowsWithContents 22 = .ok (.ifCond .le 6, 3) := by decide +kernel
theorem dX1_readableRowsWithContents_25 : decode cX1_readableRowsWithContents 25 = .ok (.iinc 1 1, 3) := by decide +kernel
theorem dX1_readableRowsWithContents_28 : decode cX1_readableRowsWithContents 28 = .ok (.iinc 3 1, 3) := by decide +kernel
theorem dX1_readableRowsWithContents_31 : decode cX1_readableRowsWithContents 31 = .ok (.goto (-20), 3) := by decide +kernel
theorem dX1_readableRowsWithContents_34 : decode cX1_readableRowsWithContents 34 = .ok (.iload_n 1, 1) := by decide +kernel
theorem dX1_readableRowsWithContents_35 : decode cX1_readableRowsWithContents 35 = .ok (.ireturn, 1) := by decide +kernel
