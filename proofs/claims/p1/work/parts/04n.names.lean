theorem dX2_init_0 : decode cX2_init 0 = .ok (.aload_n 0, 1) := by decide +kernel
theorem dX2_init_1 : decode cX2_init 1 = .ok (.invokespecial 1, 3) := by decide +kernel
theorem dX2_init_4 : decode cX2_init 4 = .ok (.aload_n 0, 1) := by decide +kernel
theorem dX2_init_5 : decode cX2_init 5 = .ok (.sipush 4608, 3) := by decide +kernel
theorem dX2_init_8 : decode cX2_init 8 = .ok (.newarray .int, 2) := by decide +kernel
theorem dX2_init_10 : decode cX2_init 10 = .ok (.putfield 7, 3) := by decide +kernel
theorem dX2_init_13 : decode cX2_init 13 = .ok (.aload_n 0, 1) := by decide +kernel
theorem dX2_init_14 : decode cX2_init 14 = .ok (.iconst 3, 1) := by decide +kernel
theorem dX2_init_15 : decode cX2_init 15 = .ok (.newarray .int, 2) := by decide +kernel
theorem dX2_init_17 : decode cX2_init 17 = .ok (.putfield 13, 3) := by decide +kernel
theorem dX2_init_20 : decode cX2_init 20 = .ok (.aload_n 0, 1) := by decide +kernel
theorem dX2_init_21 : decode cX2_init 21 = .ok (.sipush 4608, 3) := by decide +kernel
theorem dX2_init_24 : decode cX2_init 24 = .ok (.newarray .int, 2) := by decide +kernel
theorem dX2_init_26 : decode cX2_init 26 = .ok (.putfield 16, 3) := by decide +kernel
theorem dX2_init_29 : decode cX2_init 29 = .ok (.aload_n 0, 1) := by decide +kernel
theorem dX2_init_30 : decode cX2_init 30 = .ok (.iconst 3, 1) := by decide +kernel
theorem dX2_init_31 : decode cX2_init 31 = .ok (.newarray .int, 2) := by decide +kernel
theorem dX2_init_33 : decode cX2_init 33 = .ok (.putfield 19, 3) := by decide +kernel
theorem dX2_init_36 : decode cX2_init 36 = .ok (.aload_n 0, 1) := by decide +kernel
theorem dX2_init_37 : decode cX2_init 37 = .ok (.bipush 16, 2) := by decide +kernel
theorem dX2_init_39 : decode cX2_init 39 = .ok (.newarray .int, 2) := by decide +kernel
theorem dX2_init_41 : decode cX2_init 41 = .ok (.putfield 22, 3) := by decide +kernel
theorem dX2_init_44 : decode cX2_init 44 = .ok (.aload_n 0, 1) := by decide +kernel
theorem dX2_init_45 : decode cX2_init 45 = .ok (.bipush 24, 2) := by decide +kernel
theorem dX2_init_47 : decode cX2_init 47 = .ok (.newarray .int, 2) := by decide +kernel
theorem dX2_init_49 : decode cX2_init 49 = .ok (.putfield 25, 3) := by decide +kernel
theorem dX2_init_52 : decode cX2_init 52 = .ok (.aload_n 0, 1) := by decide +kernel
theorem dX2_init_53 : decode cX2_init 53 = .ok (.iload_n 1, 1) := by decide +kernel
theorem dX2_init_54 : decode cX2_init 54 = .ok (.iconst 1, 1) := by decide +kernel
theorem dX2_init_55 : decode cX2_init 55 = .ok (.if_icmp .lt 9, 3) := by decide +kernel
theorem dX2_init_58 : decode cX2_init 58 = .ok (.iload_n 1, 1) := by decide +kernel
theorem dX2_init_59 : decode cX2_init 59 = .ok (.bipush 64, 2) := by decide +kernel
theorem dX2_init_61 : decode cX2_init 61 = .ok (.if_icmp .le 7, 3) := by decide +kernel
theorem dX2_init_64 : decode cX2_init 64 = .ok (.iconst 1, 1) := by decide +kernel
theorem dX2_init_65 : decode cX2_init 65 = .ok (.goto 4, 3) := by decide +kernel
theorem dX2_init_68 : decode cX2_init 68 = .ok (.iload_n 1, 1) := by decide +kernel
theorem dX2_init_69 : decode cX2_init 69 = .ok (.putfield 28, 3) := by decide +kernel
theorem dX2_init_72 : decode cX2_init 72 = .ok (.return_, 1) := by decide +kernel
theorem dX2_thrown_0 : decode cX2_thrown 0 = .ok (.aload_n 0, 1) := by decide +kernel
theorem dX2_thrown_1 : decode cX2_thrown 1 = .ok (.getfield 32, 3) := by decide +kernel
theorem dX2_thrown_4 : decode cX2_thrown 4 = .ok (.ireturn, 1) := by decide +kernel
theorem dX2_in_0 : decode cX2_in 0 = .ok (.iload_n 0, 1) := by decide +kernel
theorem dX2_in_1 : decode cX2_in 1 = .ok (.iload_n 1, 1) := by decide +kernel
theorem dX2_in_2 : decode cX2_in 2 = .ok (.if_icmp .lt 12, 3) := by decide +kernel
theorem dX2_in_5 : decode cX2_in 5 = .ok (.iload_n 0, 1) := by decide +kernel
theorem dX2_in_6 : decode cX2_in 6 = .ok (.iload_n 2, 1) := by decide +kernel
theorem dX2_in_7 : decode cX2_in 7 = .ok (.if_icmp .gt 7, 3) := by decide +kernel
theorem dX2_in_10 : decode cX2_in 10 = .ok (.iconst 1, 1) := by decide +kernel
theorem dX2_in_11 : decode cX2_in 11 = .ok (.goto 4, 3) := by decide +kernel
theorem dX2_in_14 : decode cX2_in 14 = .ok (.iconst 0, 1) := by decide +kernel
theorem dX2_in_15 : decode cX2_in 15 = .ok (.ireturn, 1) := by decide +kernel
theorem dX2_stripes_0 : decode cX2_stripes 0 = .ok (.iconst 0, 1) := by decide +kernel
theorem dX2_stripes_1 : decode cX2_stripes 1 = .ok (.istore_n 1, 1) := by decide +kernel
theorem dX2_stripes_2 : decode cX2_stripes 2 = .ok (.iconst 0, 1) := by decide +kernel
theorem dX2_stripes_3 : decode cX2_stripes 3 = .ok (.istore_n 2, 1) := by decide +kernel
theorem dX2_stripes_4 : decode cX2_stripes 4 = .ok (.iload_n 2, 1) := by decide +kernel
theorem dX2_stripes_5 : decode cX2_stripes 5 = .ok (.iconst 3, 1) := by decide +kernel
theorem dX2_stripes_6 : decode cX2_stripes 6 = .ok (.if_icmp .ge 36, 3) := by decide +kernel
theorem dX2_stripes_9 : decode cX2_stripes 9 = .ok (.aload_n 0, 1) := by decide +kernel
theorem dX2_stripes_10 : decode cX2_stripes 10 = .ok (.getfield 13, 3) := by decide +kernel
theorem dX2_stripes_13 : decode cX2_stripes 13 = .ok (.iload_n 2, 1) := by decide +kernel
theorem dX2_stripes_14 : decode cX2_stripes 14 = .ok (.iaload, 1) := by decide +kernel
theorem dX2_stripes_15 : decode cX2_stripes 15 = .ok (.bipush 24, 2) := by decide +kernel
theorem dX2_stripes_17 : decode cX2_stripes 17 = .ok (.idiv, 1) := by decide +kernel
theorem dX2_stripes_18 : decode cX2_stripes 18 = .ok (.iload_n 1, 1) := by decide +kernel
theorem dX2_stripes_19 : decode cX2_stripes 19 = .ok (.if_icmp .le 15, 3) := by decide +kernel
theorem dX2_stripes_22 : decode cX2_stripes 22 = .ok (.aload_n 0, 1) := by decide +kernel
theorem dX2_stripes_23 : decode cX2_stripes 23 = .ok (.getfield 13, 3) := by decide +kernel
theorem dX2_stripes_26 : decode cX2_stripes 26 = .ok (.iload_n 2, 1) := by decide +kernel
theorem dX2_stripes_27 : decode cX2_stripes 27 = .ok (.iaload, 1) := by decide +kernel
theorem dX2_stripes_28 : decode cX2_stripes 28 = .ok (.bipush 24, 2) := by decide +kernel
theorem dX2_stripes_30 : decode cX2_stripes 30 = .ok (.idiv, 1) := by decide +kernel
theorem dX2_stripes_31 : decode cX2_stripes 31 = .ok (.goto 4, 3) := by decide +kernel
theorem dX2_stripes_34 : decode cX2_stripes 34 = .ok (.iload_n 1, 1) := by decide +kernel
theorem dX2_stripes_35 : decode cX2_stripes 35 = .ok (.istore_n 1, 1) := by decide +kernel
theorem dX2_stripes_36 : decode cX2_stripes 36 = .ok (.iinc 2 1, 3) := by decide +kernel
theorem dX2_stripes_39 : decode cX2_stripes 39 = .ok (.goto (-35), 3) := by decide +kernel
theorem dX2_stripes_42 : decode cX2_stripes 42 = .ok (.iload_n 1, 1) := by decide +kernel
theorem dX2_stripes_43 : decode cX2_stripes 43 = .ok (.ireturn, 1) := by decide +kernel
set_option maxRecDepth 20000 in
theorem ggX2_feed_X2_in : GoodIn wsX2_feed wsX2_in := goodIn_r _ [7] (by decide +kernel) (by decide +kernel)
set_option maxRecDepth 20000 in
theorem gX2_feed_X2_in : GoodIn wsX2_feed (va_wsS RX2 61 yX2_in wsX2_in) := goodIn_app (goodIn_of _ (by decide +kernel)) ggX2_feed_X2_in
theorem dX2_feed_0 : decode cX2_feed 0 = .ok (.aload_n 0, 1) := by decide +kernel
theorem dX2_feed_1 : decode cX2_feed 1 = .ok (.iconst 0, 1) := by decide +kernel
theorem dX2_feed_2 : decode cX2_feed 2 = .ok (.putfield 32, 3) := by decide +kernel
theorem dX2_feed_5 : decode cX2_feed 5 = .ok (.iload_n 1, 1) := by decide +kernel
theorem dX2_feed_6 : decode cX2_feed 6 = .ok (.iconst 0, 1) := by decide +kernel
theorem dX2_feed_7 : decode cX2_feed 7 = .ok (.sipush 255, 3) := by decide +kernel
theorem dX2_feed_10 : decode cX2_feed 10 = .ok (.invokestatic 61, 3) := by decide +kernel
theorem dX2_feed_13 : decode cX2_feed 13 = .ok (.ifCond .eq 12, 3) := by decide +kernel
theorem dX2_feed_16 : decode cX2_feed 16 = .ok (.aload_n 0, 1) := by decide +kernel
theorem dX2_feed_17 : decode cX2_feed 17 = .ok (.getfield 65, 3) := by decide +kernel
theorem dX2_feed_20 : decode cX2_feed 20 = .ok (.bipush 16, 2) := by decide +kernel
theorem dX2_feed_22 : decode cX2_feed 22 = .ok (.if_icmp .ne 5, 3) := by decide +kernel
theorem dX2_feed_25 : decode cX2_feed 25 = .ok (.iconst 0, 1) := by decide +kernel
theorem dX2_feed_26 : decode cX2_feed 26 = .ok (.ireturn, 1) := by decide +kernel
theorem dX2_feed_27 : decode cX2_feed 27 = .ok (.aload_n 0, 1) := by decide +kernel
theorem dX2_feed_28 : decode cX2_feed 28 = .ok (.getfield 22, 3) := by decide +kernel
theorem dX2_feed_31 : decode cX2_feed 31 = .ok (.aload_n 0, 1) := by decide +kernel
theorem dX2_feed_32 : decode cX2_feed 32 = .ok (.getfield 65, 3) := by decide +kernel
theorem dX2_feed_35 : decode cX2_feed 35 = .ok (.iload_n 1, 1) := by decide +kernel
theorem dX2_feed_36 : decode cX2_feed 36 = .ok (.iastore, 1) := by decide +kernel
theorem dX2_feed_37 : decode cX2_feed 37 = .ok (.aload_n 0, 1) := by decide +kernel
theorem dX2_feed_38 : decode cX2_feed 38 = .ok (.dup, 1) := by decide +kernel
theorem dX2_feed_39 : decode cX2_feed 39 = .ok (.getfield 65, 3) := by decide +kernel
theorem dX2_feed_42 : decode cX2_feed 42 = .ok (.iconst 1, 1) := by decide +kernel
theorem dX2_feed_43 : decode cX2_feed 43 = .ok (.iadd, 1) := by decide +kernel
theorem dX2_feed_44 : decode cX2_feed 44 = .ok (.putfield 65, 3) := by decide +kernel
theorem dX2_feed_47 : decode cX2_feed 47 = .ok (.iconst 1, 1) := by decide +kernel
theorem dX2_feed_48 : decode cX2_feed 48 = .ok (.ireturn, 1) := by decide +kernel
set_option maxRecDepth 20000 in
theorem ggX2_row_X2_in : GoodIn wsX2_row wsX2_in := goodIn_r _ [9] (by decide +kernel) (by decide +kernel)
set_option maxRecDepth 20000 in
theorem gX2_row_X2_in : GoodIn wsX2_row (va_wsS RX2 61 yX2_in wsX2_in) := goodIn_app (goodIn_of _ (by decide +kernel)) ggX2_row_X2_in
set_option maxRecDepth 20000 in
theorem ggX2_row_X2_stripes : GoodIn wsX2_row wsX2_stripes := goodIn_r _ [13, 14, 53, 54, 55, 56, 57, 58, 59, 60, 61, 62, 63, 64, 65] (by decide +kernel) (by decide +kernel)
set_option maxRecDepth 20000 in
theorem gX2_row_X2_stripes : GoodIn wsX2_row (wsV RX2 76 RX2 yX2_stripes wsX2_stripes) := goodIn_app (goodIn_of _ (by decide +kernel)) ggX2_row_X2_stripes
theorem dX2_row_0 : decode cX2_row 0 = .ok (.aload_n 0, 1) := by decide +kernel
theorem dX2_row_1 : decode cX2_row 1 = .ok (.iconst 0, 1) := by decide +kernel
theorem dX2_row_2 : decode cX2_row 2 = .ok (.putfield 32, 3) := by decide +kernel
theorem dX2_row_5 : decode cX2_row 5 = .ok (.aload_n 0, 1) := by decide +kernel
theorem dX2_row_6 : decode cX2_row 6 = .ok (.getfield 72, 3) := by decide +kernel
theorem dX2_row_9 : decode cX2_row 9 = .ok (.ifCond .ne 20, 3) := by decide +kernel
theorem dX2_row_12 : decode cX2_row 12 = .ok (.aload_n 0, 1) := by decide +kernel
theorem dX2_row_13 : decode cX2_row 13 = .ok (.getfield 65, 3) := by decide +kernel
theorem dX2_row_16 : decode cX2_row 16 = .ok (.ifCond .eq 13, 3) := by decide +kernel
theorem dX2_row_19 : decode cX2_row 19 = .ok (.iload_n 1, 1) := by decide +kernel
theorem dX2_row_20 : decode cX2_row 20 = .ok (.iconst 1, 1) := by decide +kernel
theorem dX2_row_21 : decode cX2_row 21 = .ok (.bipush 100, 2) := by decide +kernel
theorem dX2_row_23 : decode cX2_row 23 = .ok (.invokestatic 61, 3) := by decide +kernel
theorem dX2_row_26 : decode cX2_row 26 = .ok (.ifCond .ne 5, 3) := by decide +kernel
theorem dX2_row_29 : decode cX2_row 29 = .ok (.iconst (-1), 1) := by decide +kernel
theorem dX2_row_30 : decode cX2_row 30 = .ok (.ireturn, 1) := by decide +kernel
theorem dX2_row_31 : decode cX2_row 31 = .ok (.aload_n 0, 1) := by decide +kernel
theorem dX2_row_32 : decode cX2_row 32 = .ok (.invokevirtual 76, 3) := by decide +kernel
theorem dX2_row_35 : decode cX2_row 35 = .ok (.iconst 1, 1) := by decide +kernel
theorem dX2_row_36 : decode cX2_row 36 = .ok (.isub, 1) := by decide +kernel
theorem dX2_row_37 : decode cX2_row 37 = .ok (.istore_n 2, 1) := by decide +kernel
theorem dX2_row_38 : decode cX2_row 38 = .ok (.iconst 0, 1) := by decide +kernel
theorem dX2_row_39 : decode cX2_row 39 = .ok (.istore_n 3, 1) := by decide +kernel
theorem dX2_row_40 : decode cX2_row 40 = .ok (.iload_n 2, 1) := by decide +kernel
theorem dX2_row_41 : decode cX2_row 41 = .ok (.ifCond .lt 79, 3) := by decide +kernel
theorem dX2_row_44 : decode cX2_row 44 = .ok (.iconst 2, 1) := by decide +kernel
theorem dX2_row_45 : decode cX2_row 45 = .ok (.iload_n 2, 1) := by decide +kernel
theorem dX2_row_46 : decode cX2_row 46 = .ok (.imul, 1) := by decide +kernel
theorem dX2_row_47 : decode cX2_row 47 = .ok (.iconst 1, 1) := by decide +kernel
theorem dX2_row_48 : decode cX2_row 48 = .ok (.iadd, 1) := by decide +kernel
theorem dX2_row_49 : decode cX2_row 49 = .ok (.invokestatic 68, 3) := by decide +kernel
theorem dX2_row_52 : decode cX2_row 52 = .ok (.istore 4, 2) := by decide +kernel
theorem dX2_row_54 : decode cX2_row 54 = .ok (.aload_n 0, 1) := by decide +kernel
theorem dX2_row_55 : decode cX2_row 55 = .ok (.iconst 0, 1) := by decide +kernel
theorem dX2_row_56 : decode cX2_row 56 = .ok (.iload_n 2, 1) := by decide +kernel
theorem dX2_row_57 : decode cX2_row 57 = .ok (.invokevirtual 41, 3) := by decide +kernel
theorem dX2_row_60 : decode cX2_row 60 = .ok (.ifCond .eq 25, 3) := by decide +kernel
theorem dX2_row_63 : decode cX2_row 63 = .ok (.aload_n 0, 1) := by decide +kernel
theorem dX2_row_64 : decode cX2_row 64 = .ok (.iconst 1, 1) := by decide +kernel
theorem dX2_row_65 : decode cX2_row 65 = .ok (.iload_n 2, 1) := by decide +kernel
theorem dX2_row_66 : decode cX2_row 66 = .ok (.invokevirtual 41, 3) := by decide +kernel
theorem dX2_row_69 : decode cX2_row 69 = .ok (.ifCond .eq 16, 3) := by decide +kernel
theorem dX2_row_72 : decode cX2_row 72 = .ok (.aload_n 0, 1) := by decide +kernel
theorem dX2_row_73 : decode cX2_row 73 = .ok (.iconst 2, 1) := by decide +kernel
theorem dX2_row_74 : decode cX2_row 74 = .ok (.iload_n 2, 1) := by decide +kernel
theorem dX2_row_75 : decode cX2_row 75 = .ok (.invokevirtual 41, 3) := by decide +kernel
theorem dX2_row_78 : decode cX2_row 78 = .ok (.ifCond .eq 7, 3) := by decide +kernel
theorem dX2_row_81 : decode cX2_row 81 = .ok (.iconst 1, 1) := by decide +kernel
theorem dX2_row_82 : decode cX2_row 82 = .ok (.goto 4, 3) := by decide +kernel
theorem dX2_row_85 : decode cX2_row 85 = .ok (.iconst 0, 1) := by decide +kernel
theorem dX2_row_86 : decode cX2_row 86 = .ok (.istore 5, 2) := by decide +kernel
theorem dX2_row_88 : decode cX2_row 88 = .ok (.iload 5, 2) := by decide +kernel
theorem dX2_row_90 : decode cX2_row 90 = .ok (.ifCond .eq 28, 3) := by decide +kernel
theorem dX2_row_93 : decode cX2_row 93 = .ok (.aload_n 0, 1) := by decide +kernel
theorem dX2_row_94 : decode cX2_row 94 = .ok (.getfield 7, 3) := by decide +kernel
theorem dX2_row_97 : decode cX2_row 97 = .ok (.sipush 1536, 3) := by decide +kernel
theorem dX2_row_100 : decode cX2_row 100 = .ok (.iload 4, 2) := by decide +kernel
theorem dX2_row_102 : decode cX2_row 102 = .ok (.imul, 1) := by decide +kernel
theorem dX2_row_103 : decode cX2_row 103 = .ok (.bipush 24, 2) := by decide +kernel
theorem dX2_row_105 : decode cX2_row 105 = .ok (.iload_n 2, 1) := by decide +kernel
theorem dX2_row_106 : decode cX2_row 106 = .ok (.imul, 1) := by decide +kernel
theorem dX2_row_107 : decode cX2_row 107 = .ok (.iadd, 1) := by decide +kernel
theorem dX2_row_108 : decode cX2_row 108 = .ok (.iconst 2, 1) := by decide +kernel
theorem dX2_row_109 : decode cX2_row 109 = .ok (.iadd, 1) := by decide +kernel
theorem dX2_row_110 : decode cX2_row 110 = .ok (.iaload, 1) := by decide +kernel
theorem dX2_row_111 : decode cX2_row 111 = .ok (.ifCond .ne 7, 3) := by decide +kernel
theorem dX2_row_114 : decode cX2_row 114 = .ok (.iconst 1, 1) := by decide +kernel
theorem dX2_row_115 : decode cX2_row 115 = .ok (.goto 4, 3) := by decide +kernel
theorem dX2_row_118 : decode cX2_row 118 = .ok (.iconst 0, 1) := by decide +kernel
theorem dX2_row_119 : decode cX2_row 119 = .ok (.istore_n 3, 1) := by decide +kernel
theorem dX2_row_120 : decode cX2_row 120 = .ok (.iload_n 3, 1) := by decide +kernel
theorem dX2_row_121 : decode cX2_row 121 = .ok (.ifCond .ne 15, 3) := by decide +kernel
theorem dX2_row_124 : decode cX2_row 124 = .ok (.iload_n 2, 1) := by decide +kernel
theorem dX2_row_125 : decode cX2_row 125 = .ok (.iconst 1, 1) := by decide +kernel
theorem dX2_row_126 : decode cX2_row 126 = .ok (.iadd, 1) := by decide +kernel
theorem dX2_row_127 : decode cX2_row 127 = .ok (.aload_n 0, 1) := by decide +kernel
theorem dX2_row_128 : decode cX2_row 128 = .ok (.getfield 28, 3) := by decide +kernel
theorem dX2_row_131 : decode cX2_row 131 = .ok (.if_icmp .ne 5, 3) := by decide +kernel
theorem dX2_row_134 : decode cX2_row 134 = .ok (.iconst (-1), 1) := by decide +kernel
theorem dX2_row_135 : decode cX2_row 135 = .ok (.ireturn, 1) := by decide +kernel
theorem dX2_row_136 : decode cX2_row 136 = .ok (.iload_n 3, 1) := by decide +kernel
theorem dX2_row_137 : decode cX2_row 137 = .ok (.ifCond .eq 11, 3) := by decide +kernel
theorem dX2_row_140 : decode cX2_row 140 = .ok (.iconst 2, 1) := by decide +kernel
theorem dX2_row_141 : decode cX2_row 141 = .ok (.iload_n 2, 1) := by decide +kernel
theorem dX2_row_142 : decode cX2_row 142 = .ok (.imul, 1) := by decide +kernel
theorem dX2_row_143 : decode cX2_row 143 = .ok (.iconst 1, 1) := by decide +kernel
theorem dX2_row_144 : decode cX2_row 144 = .ok (.iadd, 1) := by decide +kernel
theorem dX2_row_145 : decode cX2_row 145 = .ok (.goto 8, 3) := by decide +kernel
theorem dX2_row_148 : decode cX2_row 148 = .ok (.iconst 2, 1) := by decide +kernel
theorem dX2_row_149 : decode cX2_row 149 = .ok (.iload_n 2, 1) := by decide +kernel
theorem dX2_row_150 : decode cX2_row 150 = .ok (.imul, 1) := by decide +kernel
theorem dX2_row_151 : decode cX2_row 151 = .ok (.iconst 2, 1) := by decide +kernel
theorem dX2_row_152 : decode cX2_row 152 = .ok (.iadd, 1) := by decide +kernel
theorem dX2_row_153 : decode cX2_row 153 = .ok (.istore 4, 2) := by decide +kernel
theorem dX2_row_155 : decode cX2_row 155 = .ok (.aload_n 0, 1) := by decide +kernel
theorem dX2_row_156 : decode cX2_row 156 = .ok (.iload 4, 2) := by decide +kernel
theorem dX2_row_158 : decode cX2_row 158 = .ok (.iload_n 1, 1) := by decide +kernel
theorem dX2_row_159 : decode cX2_row 159 = .ok (.invokevirtual 80, 3) := by decide +kernel
theorem dX2_row_162 : decode cX2_row 162 = .ok (.iload_n 3, 1) := by decide +kernel
theorem dX2_row_163 : decode cX2_row 163 = .ok (.ifCond .ne 18, 3) := by decide +kernel
theorem dX2_row_166 : decode cX2_row 166 = .ok (.aload_n 0, 1) := by decide +kernel
theorem dX2_row_167 : decode cX2_row 167 = .ok (.iload 4, 2) := by decide +kernel
theorem dX2_row_169 : decode cX2_row 169 = .ok (.iconst 1, 1) := by decide +kernel
theorem dX2_row_170 : decode cX2_row 170 = .ok (.iadd, 1) := by decide +kernel
theorem dX2_row_171 : decode cX2_row 171 = .ok (.invokestatic 68, 3) := by decide +kernel
theorem dX2_row_174 : decode cX2_row 174 = .ok (.iload_n 2, 1) := by decide +kernel
theorem dX2_row_175 : decode cX2_row 175 = .ok (.iconst 1, 1) := by decide +kernel
theorem dX2_row_176 : decode cX2_row 176 = .ok (.iadd, 1) := by decide +kernel
theorem dX2_row_177 : decode cX2_row 177 = .ok (.iconst 0, 1) := by decide +kernel
theorem dX2_row_178 : decode cX2_row 178 = .ok (.invokevirtual 83, 3) := by decide +kernel
theorem dX2_row_181 : decode cX2_row 181 = .ok (.aload_n 0, 1) := by decide +kernel
theorem dX2_row_182 : decode cX2_row 182 = .ok (.iload 4, 2) := by decide +kernel
theorem dX2_row_184 : decode cX2_row 184 = .ok (.iconst 2, 1) := by decide +kernel
theorem dX2_row_185 : decode cX2_row 185 = .ok (.idiv, 1) := by decide +kernel
theorem dX2_row_186 : decode cX2_row 186 = .ok (.invokevirtual 87, 3) := by decide +kernel
theorem dX2_row_189 : decode cX2_row 189 = .ok (.aload_n 0, 1) := by decide +kernel
theorem dX2_row_190 : decode cX2_row 190 = .ok (.iconst 0, 1) := by decide +kernel
theorem dX2_row_191 : decode cX2_row 191 = .ok (.putfield 65, 3) := by decide +kernel
theorem dX2_row_194 : decode cX2_row 194 = .ok (.iload 4, 2) := by decide +kernel
theorem dX2_row_196 : decode cX2_row 196 = .ok (.ireturn, 1) := by decide +kernel
set_option maxRecDepth 20000 in
theorem ggX2_find_X2_stripes : GoodIn wsX2_find wsX2_stripes := goodIn_r _ [7, 8, 41, 42, 43, 44, 45, 46, 47, 48, 49, 50, 51, 52, 53] (by decide +kernel) (by decide +kernel)
set_option maxRecDepth 20000 in
theorem gX2_find_X2_stripes : GoodIn wsX2_find (wsV RX2 76 RX2 yX2_stripes wsX2_stripes) := goodIn_app (goodIn_of _ (by decide +kernel)) ggX2_find_X2_stripes
set_option maxRecDepth 20000 in
theorem ggX2_find_X2_in : GoodIn wsX2_find wsX2_in := goodIn_r _ [11] (by decide +kernel) (by decide +kernel)
set_option maxRecDepth 20000 in
theorem gX2_find_X2_in : GoodIn wsX2_find (va_wsS RX2 61 yX2_in wsX2_in) := goodIn_app (goodIn_of _ (by decide +kernel)) ggX2_find_X2_in
theorem dX2_find_0 : decode cX2_find 0 = .ok (.aload_n 0, 1) := by decide +kernel
theorem dX2_find_1 : decode cX2_find 1 = .ok (.iconst 0, 1) := by decide +kernel
theorem dX2_find_2 : decode cX2_find 2 = .ok (.putfield 32, 3) := by decide +kernel
theorem dX2_find_5 : decode cX2_find 5 = .ok (.iload_n 1, 1) := by decide +kernel
theorem dX2_find_6 : decode cX2_find 6 = .ok (.ifCond .lt 37, 3) := by decide +kernel
theorem dX2_find_9 : decode cX2_find 9 = .ok (.iload_n 1, 1) := by decide +kernel
theorem dX2_find_10 : decode cX2_find 10 = .ok (.iconst 2, 1) := by decide +kernel
theorem dX2_find_11 : decode cX2_find 11 = .ok (.idiv, 1) := by decide +kernel
theorem dX2_find_12 : decode cX2_find 12 = .ok (.aload_n 0, 1) := by decide +kernel
theorem dX2_find_13 : decode cX2_find 13 = .ok (.invokevirtual 76, 3) := by decide +kernel
theorem dX2_find_16 : decode cX2_find 16 = .ok (.if_icmp .ge 27, 3) := by decide +kernel
theorem dX2_find_19 : decode cX2_find 19 = .ok (.iload_n 2, 1) := by decide +kernel
theorem dX2_find_20 : decode cX2_find 20 = .ok (.iconst 0, 1) := by decide +kernel
theorem dX2_find_21 : decode cX2_find 21 = .ok (.bipush 15, 2) := by decide +kernel
theorem dX2_find_23 : decode cX2_find 23 = .ok (.invokestatic 61, 3) := by decide +kernel
theorem dX2_find_26 : decode cX2_find 26 = .ok (.ifCond .eq 17, 3) := by decide +kernel
theorem dX2_find_29 : decode cX2_find 29 = .ok (.aload_n 0, 1) := by decide +kernel
theorem dX2_find_30 : decode cX2_find 30 = .ok (.iload_n 1, 1) := by decide +kernel
theorem dX2_find_31 : decode cX2_find 31 = .ok (.invokestatic 68, 3) := by decide +kernel
theorem dX2_find_34 : decode cX2_find 34 = .ok (.iload_n 1, 1) := by decide +kernel
theorem dX2_find_35 : decode cX2_find 35 = .ok (.iconst 2, 1) := by decide +kernel
theorem dX2_find_36 : decode cX2_find 36 = .ok (.idiv, 1) := by decide +kernel
theorem dX2_find_37 : decode cX2_find 37 = .ok (.invokevirtual 91, 3) := by decide +kernel
theorem dX2_find_40 : decode cX2_find 40 = .ok (.ifCond .ne 5, 3) := by decide +kernel
theorem dX2_find_43 : decode cX2_find 43 = .ok (.iconst (-1), 1) := by decide +kernel
theorem dX2_find_44 : decode cX2_find 44 = .ok (.ireturn, 1) := by decide +kernel
theorem dX2_find_45 : decode cX2_find 45 = .ok (.iload_n 2, 1) := by decide +kernel
theorem dX2_find_46 : decode cX2_find 46 = .ok (.aload_n 0, 1) := by decide +kernel
theorem dX2_find_47 : decode cX2_find 47 = .ok (.getfield 25, 3) := by decide +kernel
theorem dX2_find_50 : decode cX2_find 50 = .ok (.iconst 3, 1) := by decide +kernel
theorem dX2_find_51 : decode cX2_find 51 = .ok (.iaload, 1) := by decide +kernel
theorem dX2_find_52 : decode cX2_find 52 = .ok (.if_icmp .ge 14, 3) := by decide +kernel
theorem dX2_find_55 : decode cX2_find 55 = .ok (.aload_n 0, 1) := by decide +kernel
theorem dX2_find_56 : decode cX2_find 56 = .ok (.getfield 25, 3) := by decide +kernel
theorem dX2_find_59 : decode cX2_find 59 = .ok (.iconst 4, 1) := by decide +kernel
theorem dX2_find_60 : decode cX2_find 60 = .ok (.iload_n 2, 1) := by decide +kernel
theorem dX2_find_61 : decode cX2_find 61 = .ok (.iadd, 1) := by decide +kernel
theorem dX2_find_62 : decode cX2_find 62 = .ok (.iaload, 1) := by decide +kernel
theorem dX2_find_63 : decode cX2_find 63 = .ok (.goto 4, 3) := by decide +kernel
theorem dX2_find_66 : decode cX2_find 66 = .ok (.iconst (-1), 1) := by decide +kernel
theorem dX2_find_67 : decode cX2_find 67 = .ok (.ireturn, 1) := by decide +kernel
set_option maxRecDepth 20000 in
theorem ggX2_rows_X2_stripes : GoodIn wsX2_rows wsX2_stripes := goodIn_r _ [7, 8, 41, 42, 43, 44, 45, 46, 47, 48, 49, 50, 51, 52, 53] (by decide +kernel) (by decide +kernel)
set_option maxRecDepth 20000 in
theorem gX2_rows_X2_stripes : GoodIn wsX2_rows (wsV RX2 76 RX2 yX2_stripes wsX2_stripes) := goodIn_app (goodIn_of _ (by decide +kernel)) ggX2_rows_X2_stripes
set_option maxRecDepth 20000 in
theorem ggX2_rows_X2_in : GoodIn wsX2_rows wsX2_in := goodIn_r _ [11] (by decide +kernel) (by decide +kernel)
set_option maxRecDepth 20000 in
theorem gX2_rows_X2_in : GoodIn wsX2_rows (va_wsS RX2 61 yX2_in wsX2_in) := goodIn_app (goodIn_of _ (by decide +kernel)) ggX2_rows_X2_in
theorem dX2_rows_0 : decode cX2_rows 0 = .ok (.aload_n 0, 1) := by decide +kernel
theorem dX2_rows_1 : decode cX2_rows 1 = .ok (.iconst 0, 1) := by decide +kernel
theorem dX2_rows_2 : decode cX2_rows 2 = .ok (.putfield 32, 3) := by decide +kernel
theorem dX2_rows_5 : decode cX2_rows 5 = .ok (.iconst 0, 1) := by decide +kernel
theorem dX2_rows_6 : decode cX2_rows 6 = .ok (.istore_n 2, 1) := by decide +kernel
theorem dX2_rows_7 : decode cX2_rows 7 = .ok (.iconst 0, 1) := by decide +kernel
theorem dX2_rows_8 : decode cX2_rows 8 = .ok (.istore_n 3, 1) := by decide +kernel
theorem dX2_rows_9 : decode cX2_rows 9 = .ok (.iload_n 3, 1) := by decide +kernel
theorem dX2_rows_10 : decode cX2_rows 10 = .ok (.iconst 2, 1) := by decide +kernel
theorem dX2_rows_11 : decode cX2_rows 11 = .ok (.aload_n 0, 1) := by decide +kernel
theorem dX2_rows_12 : decode cX2_rows 12 = .ok (.invokevirtual 76, 3) := by decide +kernel
theorem dX2_rows_15 : decode cX2_rows 15 = .ok (.imul, 1) := by decide +kernel
theorem dX2_rows_16 : decode cX2_rows 16 = .ok (.if_icmp .ge 51, 3) := by decide +kernel
theorem dX2_rows_19 : decode cX2_rows 19 = .ok (.iload_n 1, 1) := by decide +kernel
theorem dX2_rows_20 : decode cX2_rows 20 = .ok (.iconst 1, 1) := by decide +kernel
theorem dX2_rows_21 : decode cX2_rows 21 = .ok (.bipush 100, 2) := by decide +kernel
theorem dX2_rows_23 : decode cX2_rows 23 = .ok (.invokestatic 61, 3) := by decide +kernel
theorem dX2_rows_26 : decode cX2_rows 26 = .ok (.ifCond .eq 41, 3) := by decide +kernel
theorem dX2_rows_29 : decode cX2_rows 29 = .ok (.iload_n 2, 1) := by decide +kernel
theorem dX2_rows_30 : decode cX2_rows 30 = .ok (.aload_n 0, 1) := by decide +kernel
theorem dX2_rows_31 : decode cX2_rows 31 = .ok (.iload_n 3, 1) := by decide +kernel
theorem dX2_rows_32 : decode cX2_rows 32 = .ok (.invokestatic 68, 3) := by decide +kernel
theorem dX2_rows_35 : decode cX2_rows 35 = .ok (.iload_n 3, 1) := by decide +kernel
theorem dX2_rows_36 : decode cX2_rows 36 = .ok (.iconst 2, 1) := by decide +kernel
theorem dX2_rows_37 : decode cX2_rows 37 = .ok (.idiv, 1) := by decide +kernel
theorem dX2_rows_38 : decode cX2_rows 38 = .ok (.invokevirtual 91, 3) := by decide +kernel
theorem dX2_rows_41 : decode cX2_rows 41 = .ok (.ifCond .eq 17, 3) := by decide +kernel
theorem dX2_rows_44 : decode cX2_rows 44 = .ok (.aload_n 0, 1) := by decide +kernel
theorem dX2_rows_45 : decode cX2_rows 45 = .ok (.getfield 25, 3) := by decide +kernel
theorem dX2_rows_48 : decode cX2_rows 48 = .ok (.iconst 2, 1) := by decide +kernel
theorem dX2_rows_49 : decode cX2_rows 49 = .ok (.iaload, 1) := by decide +kernel
theorem dX2_rows_50 : decode cX2_rows 50 = .ok (.iload_n 1, 1) := by decide +kernel
theorem dX2_rows_51 : decode cX2_rows 51 = .ok (.if_icmp .ne 7, 3) := by decide +kernel
theorem dX2_rows_54 : decode cX2_rows 54 = .ok (.iconst 1, 1) := by decide +kernel
theorem dX2_rows_55 : decode cX2_rows 55 = .ok (.goto 4, 3) := by decide +kernel
theorem dX2_rows_58 : decode cX2_rows 58 = .ok (.iconst 0, 1) := by decide +kernel
theorem dX2_rows_59 : decode cX2_rows 59 = .ok (.iadd, 1) := by decide +kernel
theorem dX2_rows_60 : decode cX2_rows 60 = .ok (.istore_n 2, 1) := by decide +kernel
theorem dX2_rows_61 : decode cX2_rows 61 = .ok (.iinc 3 1, 3) := by decide +kernel
theorem dX2_rows_64 : decode cX2_rows 64 = .ok (.goto (-55), 3) := by decide +kernel
theorem dX2_rows_67 : decode cX2_rows 67 = .ok (.iload_n 2, 1) := by decide +kernel
theorem dX2_rows_68 : decode cX2_rows 68 = .ok (.ireturn, 1) := by decide +kernel
set_option maxRecDepth 20000 in
theorem ggX2_drop_X2_in : GoodIn wsX2_drop wsX2_in := goodIn_r _ [7] (by decide +kernel) (by decide +kernel)
set_option maxRecDepth 20000 in
theorem gX2_drop_X2_in : GoodIn wsX2_drop (va_wsS RX2 61 yX2_in wsX2_in) := goodIn_app (goodIn_of _ (by decide +kernel)) ggX2_drop_X2_in
set_option maxRecDepth 20000 in
theorem ggX2_drop_X2_stripes : GoodIn wsX2_drop wsX2_stripes := goodIn_r _ [11, 12, 46, 47, 48, 49, 50, 51, 52, 53, 54, 55, 56, 57, 58] (by decide +kernel) (by decide +kernel)
set_option maxRecDepth 20000 in
theorem gX2_drop_X2_stripes : GoodIn wsX2_drop (wsV RX2 76 RX2 yX2_stripes wsX2_stripes) := goodIn_app (goodIn_of _ (by decide +kernel)) ggX2_drop_X2_stripes
theorem dX2_drop_0 : decode cX2_drop 0 = .ok (.aload_n 0, 1) := by decide +kernel
theorem dX2_drop_1 : decode cX2_drop 1 = .ok (.iconst 0, 1) := by decide +kernel
theorem dX2_drop_2 : decode cX2_drop 2 = .ok (.putfield 32, 3) := by decide +kernel
theorem dX2_drop_5 : decode cX2_drop 5 = .ok (.aload_n 0, 1) := by decide +kernel
theorem dX2_drop_6 : decode cX2_drop 6 = .ok (.getfield 72, 3) := by decide +kernel
theorem dX2_drop_9 : decode cX2_drop 9 = .ok (.ifCond .ne 13, 3) := by decide +kernel
theorem dX2_drop_12 : decode cX2_drop 12 = .ok (.iload_n 1, 1) := by decide +kernel
theorem dX2_drop_13 : decode cX2_drop 13 = .ok (.iconst 1, 1) := by decide +kernel
theorem dX2_drop_14 : decode cX2_drop 14 = .ok (.bipush 100, 2) := by decide +kernel
theorem dX2_drop_16 : decode cX2_drop 16 = .ok (.invokestatic 61, 3) := by decide +kernel
theorem dX2_drop_19 : decode cX2_drop 19 = .ok (.ifCond .ne 5, 3) := by decide +kernel
theorem dX2_drop_22 : decode cX2_drop 22 = .ok (.iconst 0, 1) := by decide +kernel
theorem dX2_drop_23 : decode cX2_drop 23 = .ok (.ireturn, 1) := by decide +kernel
theorem dX2_drop_24 : decode cX2_drop 24 = .ok (.iconst 0, 1) := by decide +kernel
theorem dX2_drop_25 : decode cX2_drop 25 = .ok (.istore_n 2, 1) := by decide +kernel
theorem dX2_drop_26 : decode cX2_drop 26 = .ok (.iconst 0, 1) := by decide +kernel
theorem dX2_drop_27 : decode cX2_drop 27 = .ok (.istore_n 3, 1) := by decide +kernel
theorem dX2_drop_28 : decode cX2_drop 28 = .ok (.iload_n 3, 1) := by decide +kernel
theorem dX2_drop_29 : decode cX2_drop 29 = .ok (.aload_n 0, 1) := by decide +kernel
theorem dX2_drop_30 : decode cX2_drop 30 = .ok (.invokevirtual 76, 3) := by decide +kernel
theorem dX2_drop_33 : decode cX2_drop 33 = .ok (.if_icmp .ge 137, 3) := by decide +kernel
theorem dX2_drop_36 : decode cX2_drop 36 = .ok (.iconst 0, 1) := by decide +kernel
theorem dX2_drop_37 : decode cX2_drop 37 = .ok (.istore 4, 2) := by decide +kernel
theorem dX2_drop_39 : decode cX2_drop 39 = .ok (.iconst 2, 1) := by decide +kernel
theorem dX2_drop_40 : decode cX2_drop 40 = .ok (.iload_n 3, 1) := by decide +kernel
theorem dX2_drop_41 : decode cX2_drop 41 = .ok (.imul, 1) := by decide +kernel
theorem dX2_drop_42 : decode cX2_drop 42 = .ok (.istore 5, 2) := by decide +kernel
theorem dX2_drop_44 : decode cX2_drop 44 = .ok (.iload 5, 2) := by decide +kernel
theorem dX2_drop_46 : decode cX2_drop 46 = .ok (.iconst 2, 1) := by decide +kernel
theorem dX2_drop_47 : decode cX2_drop 47 = .ok (.iload_n 3, 1) := by decide +kernel
theorem dX2_drop_48 : decode cX2_drop 48 = .ok (.imul, 1) := by decide +kernel
theorem dX2_drop_49 : decode cX2_drop 49 = .ok (.iconst 2, 1) := by decide +kernel
theorem dX2_drop_50 : decode cX2_drop 50 = .ok (.iadd, 1) := by decide +kernel
theorem dX2_drop_51 : decode cX2_drop 51 = .ok (.if_icmp .ge 61, 3) := by decide +kernel
theorem dX2_drop_54 : decode cX2_drop 54 = .ok (.iload 5, 2) := by decide +kernel
theorem dX2_drop_56 : decode cX2_drop 56 = .ok (.invokestatic 68, 3) := by decide +kernel
theorem dX2_drop_59 : decode cX2_drop 59 = .ok (.istore 6, 2) := by decide +kernel
theorem dX2_drop_61 : decode cX2_drop 61 = .ok (.aload_n 0, 1) := by decide +kernel
theorem dX2_drop_62 : decode cX2_drop 62 = .ok (.iload 6, 2) := by decide +kernel
theorem dX2_drop_64 : decode cX2_drop 64 = .ok (.iload_n 3, 1) := by decide +kernel
theorem dX2_drop_65 : decode cX2_drop 65 = .ok (.invokevirtual 41, 3) := by decide +kernel
theorem dX2_drop_68 : decode cX2_drop 68 = .ok (.ifCond .eq 38, 3) := by decide +kernel
theorem dX2_drop_71 : decode cX2_drop 71 = .ok (.aload_n 0, 1) := by decide +kernel
theorem dX2_drop_72 : decode cX2_drop 72 = .ok (.getfield 7, 3) := by decide +kernel
theorem dX2_drop_75 : decode cX2_drop 75 = .ok (.sipush 1536, 3) := by decide +kernel
theorem dX2_drop_78 : decode cX2_drop 78 = .ok (.iload 6, 2) := by decide +kernel
theorem dX2_drop_80 : decode cX2_drop 80 = .ok (.imul, 1) := by decide +kernel
theorem dX2_drop_81 : decode cX2_drop 81 = .ok (.bipush 24, 2) := by decide +kernel
theorem dX2_drop_83 : decode cX2_drop 83 = .ok (.iload_n 3, 1) := by decide +kernel
theorem dX2_drop_84 : decode cX2_drop 84 = .ok (.imul, 1) := by decide +kernel
theorem dX2_drop_85 : decode cX2_drop 85 = .ok (.iadd, 1) := by decide +kernel
theorem dX2_drop_86 : decode cX2_drop 86 = .ok (.iconst 2, 1) := by decide +kernel
theorem dX2_drop_87 : decode cX2_drop 87 = .ok (.iadd, 1) := by decide +kernel
theorem dX2_drop_88 : decode cX2_drop 88 = .ok (.iaload, 1) := by decide +kernel
theorem dX2_drop_89 : decode cX2_drop 89 = .ok (.iload_n 1, 1) := by decide +kernel
theorem dX2_drop_90 : decode cX2_drop 90 = .ok (.if_icmp .ne 16, 3) := by decide +kernel
theorem dX2_drop_93 : decode cX2_drop 93 = .ok (.aload_n 0, 1) := by decide +kernel
theorem dX2_drop_94 : decode cX2_drop 94 = .ok (.iload 6, 2) := by decide +kernel
theorem dX2_drop_96 : decode cX2_drop 96 = .ok (.iload_n 3, 1) := by decide +kernel
theorem dX2_drop_97 : decode cX2_drop 97 = .ok (.sipush 255, 3) := by decide +kernel
theorem dX2_drop_100 : decode cX2_drop 100 = .ok (.invokevirtual 83, 3) := by decide +kernel
theorem dX2_drop_103 : decode cX2_drop 103 = .ok (.iconst 1, 1) := by decide +kernel
theorem dX2_drop_104 : decode cX2_drop 104 = .ok (.istore 4, 2) := by decide +kernel
theorem dX2_drop_106 : decode cX2_drop 106 = .ok (.iinc 5 1, 3) := by decide +kernel
theorem dX2_drop_109 : decode cX2_drop 109 = .ok (.goto (-65), 3) := by decide +kernel
theorem dX2_drop_112 : decode cX2_drop 112 = .ok (.iload 4, 2) := by decide +kernel
theorem dX2_drop_114 : decode cX2_drop 114 = .ok (.ifCond .eq 35, 3) := by decide +kernel
theorem dX2_drop_117 : decode cX2_drop 117 = .ok (.aload_n 0, 1) := by decide +kernel
theorem dX2_drop_118 : decode cX2_drop 118 = .ok (.iconst 0, 1) := by decide +kernel
theorem dX2_drop_119 : decode cX2_drop 119 = .ok (.iload_n 3, 1) := by decide +kernel
theorem dX2_drop_120 : decode cX2_drop 120 = .ok (.invokevirtual 41, 3) := by decide +kernel
theorem dX2_drop_123 : decode cX2_drop 123 = .ok (.ifCond .eq 26, 3) := by decide +kernel
theorem dX2_drop_126 : decode cX2_drop 126 = .ok (.aload_n 0, 1) := by decide +kernel
theorem dX2_drop_127 : decode cX2_drop 127 = .ok (.iconst 1, 1) := by decide +kernel
theorem dX2_drop_128 : decode cX2_drop 128 = .ok (.iload_n 3, 1) := by decide +kernel
theorem dX2_drop_129 : decode cX2_drop 129 = .ok (.invokevirtual 41, 3) := by decide +kernel
theorem dX2_drop_132 : decode cX2_drop 132 = .ok (.ifCond .eq 17, 3) := by decide +kernel
theorem dX2_drop_135 : decode cX2_drop 135 = .ok (.aload_n 0, 1) := by decide +kernel
theorem dX2_drop_136 : decode cX2_drop 136 = .ok (.iconst 2, 1) := by decide +kernel
theorem dX2_drop_137 : decode cX2_drop 137 = .ok (.iload_n 3, 1) := by decide +kernel
theorem dX2_drop_138 : decode cX2_drop 138 = .ok (.invokevirtual 41, 3) := by decide +kernel
theorem dX2_drop_141 : decode cX2_drop 141 = .ok (.ifCond .eq 8, 3) := by decide +kernel
theorem dX2_drop_144 : decode cX2_drop 144 = .ok (.aload_n 0, 1) := by decide +kernel
theorem dX2_drop_145 : decode cX2_drop 145 = .ok (.iload_n 3, 1) := by decide +kernel
theorem dX2_drop_146 : decode cX2_drop 146 = .ok (.invokevirtual 87, 3) := by decide +kernel
theorem dX2_drop_149 : decode cX2_drop 149 = .ok (.iload_n 2, 1) := by decide +kernel
theorem dX2_drop_150 : decode cX2_drop 150 = .ok (.ifCond .ne 8, 3) := by decide +kernel
theorem dX2_drop_153 : decode cX2_drop 153 = .ok (.iload 4, 2) := by decide +kernel
theorem dX2_drop_155 : decode cX2_drop 155 = .ok (.ifCond .eq 7, 3) := by decide +kernel
theorem dX2_drop_158 : decode cX2_drop 158 = .ok (.iconst 1, 1) := by decide +kernel
theorem dX2_drop_159 : decode cX2_drop 159 = .ok (.goto 4, 3) := by decide +kernel
theorem dX2_drop_162 : decode cX2_drop 162 = .ok (.iconst 0, 1) := by decide +kernel
theorem dX2_drop_163 : decode cX2_drop 163 = .ok (.istore_n 2, 1) := by decide +kernel
theorem dX2_drop_164 : decode cX2_drop 164 = .ok (.iinc 3 1, 3) := by decide +kernel
theorem dX2_drop_167 : decode cX2_drop 167 = .ok (.goto (-139), 3) := by decide +kernel
theorem dX2_drop_170 : decode cX2_drop 170 = .ok (.iload_n 2, 1) := by decide +kernel
theorem dX2_drop_171 : decode cX2_drop 171 = .ok (.ireturn, 1) := by decide +kernel
set_option maxRecDepth 20000 in
theorem ggX2_crash_X2_in : GoodIn wsX2_crash wsX2_in := goodIn_r _ [6] (by decide +kernel) (by decide +kernel)
set_option maxRecDepth 20000 in
theorem gX2_crash_X2_in : GoodIn wsX2_crash (va_wsS RX2 61 yX2_in wsX2_in) := goodIn_app (goodIn_of _ (by decide +kernel)) ggX2_crash_X2_in
theorem dX2_crash_0 : decode cX2_crash 0 = .ok (.aload_n 0, 1) := by decide +kernel
theorem dX2_crash_1 : decode cX2_crash 1 = .ok (.iconst 0, 1) := by decide +kernel
theorem dX2_crash_2 : decode cX2_crash 2 = .ok (.putfield 32, 3) := by decide +kernel
theorem dX2_crash_5 : decode cX2_crash 5 = .ok (.iload_n 1, 1) := by decide +kernel
theorem dX2_crash_6 : decode cX2_crash 6 = .ok (.iconst 0, 1) := by decide +kernel
theorem dX2_crash_7 : decode cX2_crash 7 = .ok (.iconst 2, 1) := by decide +kernel
theorem dX2_crash_8 : decode cX2_crash 8 = .ok (.invokestatic 61, 3) := by decide +kernel
theorem dX2_crash_11 : decode cX2_crash 11 = .ok (.ifCond .eq 17, 3) := by decide +kernel
theorem dX2_crash_14 : decode cX2_crash 14 = .ok (.iload_n 2, 1) := by decide +kernel
theorem dX2_crash_15 : decode cX2_crash 15 = .ok (.ifCond .lt 13, 3) := by decide +kernel
theorem dX2_crash_18 : decode cX2_crash 18 = .ok (.iload_n 2, 1) := by decide +kernel
theorem dX2_crash_19 : decode cX2_crash 19 = .ok (.aload_n 0, 1) := by decide +kernel
theorem dX2_crash_20 : decode cX2_crash 20 = .ok (.getfield 13, 3) := by decide +kernel
theorem dX2_crash_23 : decode cX2_crash 23 = .ok (.iload_n 1, 1) := by decide +kernel
theorem dX2_crash_24 : decode cX2_crash 24 = .ok (.iaload, 1) := by decide +kernel
theorem dX2_crash_25 : decode cX2_crash 25 = .ok (.if_icmp .lt 5, 3) := by decide +kernel
theorem dX2_crash_28 : decode cX2_crash 28 = .ok (.iconst 0, 1) := by decide +kernel
theorem dX2_crash_29 : decode cX2_crash 29 = .ok (.ireturn, 1) := by decide +kernel
theorem dX2_crash_30 : decode cX2_crash 30 = .ok (.aload_n 0, 1) := by decide +kernel
theorem dX2_crash_31 : decode cX2_crash 31 = .ok (.invokevirtual 97, 3) := by decide +kernel
theorem dX2_crash_34 : decode cX2_crash 34 = .ok (.aload_n 0, 1) := by decide +kernel
theorem dX2_crash_35 : decode cX2_crash 35 = .ok (.getfield 13, 3) := by decide +kernel
theorem dX2_crash_38 : decode cX2_crash 38 = .ok (.iload_n 1, 1) := by decide +kernel
theorem dX2_crash_39 : decode cX2_crash 39 = .ok (.iload_n 2, 1) := by decide +kernel
theorem dX2_crash_40 : decode cX2_crash 40 = .ok (.iastore, 1) := by decide +kernel
theorem dX2_crash_41 : decode cX2_crash 41 = .ok (.iconst 1, 1) := by decide +kernel
theorem dX2_crash_42 : decode cX2_crash 42 = .ok (.ireturn, 1) := by decide +kernel
set_option maxRecDepth 20000 in
theorem ggX2_lose_X2_in : GoodIn wsX2_lose wsX2_in := goodIn_r _ [6] (by decide +kernel) (by decide +kernel)
set_option maxRecDepth 20000 in
theorem gX2_lose_X2_in : GoodIn wsX2_lose (va_wsS RX2 61 yX2_in wsX2_in) := goodIn_app (goodIn_of _ (by decide +kernel)) ggX2_lose_X2_in
theorem dX2_lose_0 : decode cX2_lose 0 = .ok (.aload_n 0, 1) := by decide +kernel
theorem dX2_lose_1 : decode cX2_lose 1 = .ok (.iconst 0, 1) := by decide +kernel
theorem dX2_lose_2 : decode cX2_lose 2 = .ok (.putfield 32, 3) := by decide +kernel
theorem dX2_lose_5 : decode cX2_lose 5 = .ok (.iload_n 1, 1) := by decide +kernel
theorem dX2_lose_6 : decode cX2_lose 6 = .ok (.iconst 0, 1) := by decide +kernel
theorem dX2_lose_7 : decode cX2_lose 7 = .ok (.iconst 2, 1) := by decide +kernel
theorem dX2_lose_8 : decode cX2_lose 8 = .ok (.invokestatic 61, 3) := by decide +kernel
theorem dX2_lose_11 : decode cX2_lose 11 = .ok (.ifCond .eq 12, 3) := by decide +kernel
theorem dX2_lose_14 : decode cX2_lose 14 = .ok (.aload_n 0, 1) := by decide +kernel
theorem dX2_lose_15 : decode cX2_lose 15 = .ok (.getfield 13, 3) := by decide +kernel
theorem dX2_lose_18 : decode cX2_lose 18 = .ok (.iload_n 1, 1) := by decide +kernel
theorem dX2_lose_19 : decode cX2_lose 19 = .ok (.iaload, 1) := by decide +kernel
theorem dX2_lose_20 : decode cX2_lose 20 = .ok (.ifCond .ne 5, 3) := by decide +kernel
theorem dX2_lose_23 : decode cX2_lose 23 = .ok (.iconst 0, 1) := by decide +kernel
theorem dX2_lose_24 : decode cX2_lose 24 = .ok (.ireturn, 1) := by decide +kernel
theorem dX2_lose_25 : decode cX2_lose 25 = .ok (.aload_n 0, 1) := by decide +kernel
theorem dX2_lose_26 : decode cX2_lose 26 = .ok (.invokevirtual 97, 3) := by decide +kernel
theorem dX2_lose_29 : decode cX2_lose 29 = .ok (.aload_n 0, 1) := by decide +kernel
theorem dX2_lose_30 : decode cX2_lose 30 = .ok (.getfield 13, 3) := by decide +kernel
theorem dX2_lose_33 : decode cX2_lose 33 = .ok (.iload_n 1, 1) := by decide +kernel
theorem dX2_lose_34 : decode cX2_lose 34 = .ok (.iconst 0, 1) := by decide +kernel
theorem dX2_lose_35 : decode cX2_lose 35 = .ok (.iastore, 1) := by decide +kernel
theorem dX2_lose_36 : decode cX2_lose 36 = .ok (.iconst 1, 1) := by decide +kernel
theorem dX2_lose_37 : decode cX2_lose 37 = .ok (.ireturn, 1) := by decide +kernel
set_option maxRecDepth 20000 in
theorem ggX2_poke_X2_in : GoodIn wsX2_poke wsX2_in := goodIn_r _ [7] (by decide +kernel) (by decide +kernel)
set_option maxRecDepth 20000 in
theorem gX2_poke_X2_in : GoodIn wsX2_poke (va_wsS RX2 61 yX2_in wsX2_in) := goodIn_app (goodIn_of _ (by decide +kernel)) ggX2_poke_X2_in
theorem dX2_poke_0 : decode cX2_poke 0 = .ok (.aload_n 0, 1) := by decide +kernel
theorem dX2_poke_1 : decode cX2_poke 1 = .ok (.iconst 0, 1) := by decide +kernel
theorem dX2_poke_2 : decode cX2_poke 2 = .ok (.putfield 32, 3) := by decide +kernel
theorem dX2_poke_5 : decode cX2_poke 5 = .ok (.iload_n 1, 1) := by decide +kernel
theorem dX2_poke_6 : decode cX2_poke 6 = .ok (.iconst 0, 1) := by decide +kernel
theorem dX2_poke_7 : decode cX2_poke 7 = .ok (.iconst 2, 1) := by decide +kernel
theorem dX2_poke_8 : decode cX2_poke 8 = .ok (.invokestatic 61, 3) := by decide +kernel
theorem dX2_poke_11 : decode cX2_poke 11 = .ok (.ifCond .eq 28, 3) := by decide +kernel
theorem dX2_poke_14 : decode cX2_poke 14 = .ok (.iload_n 3, 1) := by decide +kernel
theorem dX2_poke_15 : decode cX2_poke 15 = .ok (.iconst 1, 1) := by decide +kernel
theorem dX2_poke_16 : decode cX2_poke 16 = .ok (.sipush 255, 3) := by decide +kernel
theorem dX2_poke_19 : decode cX2_poke 19 = .ok (.invokestatic 61, 3) := by decide +kernel
theorem dX2_poke_22 : decode cX2_poke 22 = .ok (.ifCond .eq 17, 3) := by decide +kernel
theorem dX2_poke_25 : decode cX2_poke 25 = .ok (.iload_n 2, 1) := by decide +kernel
theorem dX2_poke_26 : decode cX2_poke 26 = .ok (.ifCond .lt 13, 3) := by decide +kernel
theorem dX2_poke_29 : decode cX2_poke 29 = .ok (.iload_n 2, 1) := by decide +kernel
theorem dX2_poke_30 : decode cX2_poke 30 = .ok (.aload_n 0, 1) := by decide +kernel
theorem dX2_poke_31 : decode cX2_poke 31 = .ok (.getfield 13, 3) := by decide +kernel
theorem dX2_poke_34 : decode cX2_poke 34 = .ok (.iload_n 1, 1) := by decide +kernel
theorem dX2_poke_35 : decode cX2_poke 35 = .ok (.iaload, 1) := by decide +kernel
theorem dX2_poke_36 : decode cX2_poke 36 = .ok (.if_icmp .lt 5, 3) := by decide +kernel
theorem dX2_poke_39 : decode cX2_poke 39 = .ok (.iconst 0, 1) := by decide +kernel
theorem dX2_poke_40 : decode cX2_poke 40 = .ok (.ireturn, 1) := by decide +kernel
theorem dX2_poke_41 : decode cX2_poke 41 = .ok (.aload_n 0, 1) := by decide +kernel
theorem dX2_poke_42 : decode cX2_poke 42 = .ok (.invokevirtual 97, 3) := by decide +kernel
theorem dX2_poke_45 : decode cX2_poke 45 = .ok (.aload_n 0, 1) := by decide +kernel
theorem dX2_poke_46 : decode cX2_poke 46 = .ok (.getfield 7, 3) := by decide +kernel
theorem dX2_poke_49 : decode cX2_poke 49 = .ok (.sipush 1536, 3) := by decide +kernel
theorem dX2_poke_52 : decode cX2_poke 52 = .ok (.iload_n 1, 1) := by decide +kernel
theorem dX2_poke_53 : decode cX2_poke 53 = .ok (.imul, 1) := by decide +kernel
theorem dX2_poke_54 : decode cX2_poke 54 = .ok (.iload_n 2, 1) := by decide +kernel
theorem dX2_poke_55 : decode cX2_poke 55 = .ok (.iadd, 1) := by decide +kernel
theorem dX2_poke_56 : decode cX2_poke 56 = .ok (.dup2, 1) := by decide +kernel
theorem dX2_poke_57 : decode cX2_poke 57 = .ok (.iaload, 1) := by decide +kernel
theorem dX2_poke_58 : decode cX2_poke 58 = .ok (.iload_n 3, 1) := by decide +kernel
theorem dX2_poke_59 : decode cX2_poke 59 = .ok (.ixor, 1) := by decide +kernel
theorem dX2_poke_60 : decode cX2_poke 60 = .ok (.iastore, 1) := by decide +kernel
theorem dX2_poke_61 : decode cX2_poke 61 = .ok (.iconst 1, 1) := by decide +kernel
theorem dX2_poke_62 : decode cX2_poke 62 = .ok (.ireturn, 1) := by decide +kernel
set_option maxRecDepth 20000 in
theorem ggX2_reopen_X2_stripes : GoodIn wsX2_reopen wsX2_stripes := goodIn_r _ [10, 2, 48, 49, 50, 51, 52, 53, 54, 55, 56, 57, 58, 59, 60] (by decide +kernel) (by decide +kernel)
set_option maxRecDepth 20000 in
theorem gX2_reopen_X2_stripes : GoodIn wsX2_reopen (wsV RX2 76 RX2 yX2_stripes wsX2_stripes) := goodIn_app (goodIn_of _ (by decide +kernel)) ggX2_reopen_X2_stripes
theorem dX2_reopen_0 : decode cX2_reopen 0 = .ok (.aload_n 0, 1) := by decide +kernel
theorem dX2_reopen_1 : decode cX2_reopen 1 = .ok (.iconst 0, 1) := by decide +kernel
theorem dX2_reopen_2 : decode cX2_reopen 2 = .ok (.putfield 32, 3) := by decide +kernel
theorem dX2_reopen_5 : decode cX2_reopen 5 = .ok (.aload_n 0, 1) := by decide +kernel
theorem dX2_reopen_6 : decode cX2_reopen 6 = .ok (.invokevirtual 76, 3) := by decide +kernel
theorem dX2_reopen_9 : decode cX2_reopen 9 = .ok (.istore_n 1, 1) := by decide +kernel
theorem dX2_reopen_10 : decode cX2_reopen 10 = .ok (.iconst 0, 1) := by decide +kernel
theorem dX2_reopen_11 : decode cX2_reopen 11 = .ok (.istore_n 2, 1) := by decide +kernel
theorem dX2_reopen_12 : decode cX2_reopen 12 = .ok (.iload_n 2, 1) := by decide +kernel
theorem dX2_reopen_13 : decode cX2_reopen 13 = .ok (.iload_n 1, 1) := by decide +kernel
theorem dX2_reopen_14 : decode cX2_reopen 14 = .ok (.if_icmp .ge 30, 3) := by decide +kernel
theorem dX2_reopen_17 : decode cX2_reopen 17 = .ok (.iconst 0, 1) := by decide +kernel
theorem dX2_reopen_18 : decode cX2_reopen 18 = .ok (.istore_n 3, 1) := by decide +kernel
theorem dX2_reopen_19 : decode cX2_reopen 19 = .ok (.iload_n 3, 1) := by decide +kernel
theorem dX2_reopen_20 : decode cX2_reopen 20 = .ok (.iconst 3, 1) := by decide +kernel
theorem dX2_reopen_21 : decode cX2_reopen 21 = .ok (.if_icmp .ge 17, 3) := by decide +kernel
theorem dX2_reopen_24 : decode cX2_reopen 24 = .ok (.aload_n 0, 1) := by decide +kernel
theorem dX2_reopen_25 : decode cX2_reopen 25 = .ok (.iload_n 3, 1) := by decide +kernel
theorem dX2_reopen_26 : decode cX2_reopen 26 = .ok (.iload_n 2, 1) := by decide +kernel
theorem dX2_reopen_27 : decode cX2_reopen 27 = .ok (.invokevirtual 100, 3) := by decide +kernel
theorem dX2_reopen_30 : decode cX2_reopen 30 = .ok (.istore 4, 2) := by decide +kernel
theorem dX2_reopen_32 : decode cX2_reopen 32 = .ok (.iinc 3 1, 3) := by decide +kernel
theorem dX2_reopen_35 : decode cX2_reopen 35 = .ok (.goto (-16), 3) := by decide +kernel
theorem dX2_reopen_38 : decode cX2_reopen 38 = .ok (.iinc 2 1, 3) := by decide +kernel
theorem dX2_reopen_41 : decode cX2_reopen 41 = .ok (.goto (-29), 3) := by decide +kernel
theorem dX2_reopen_44 : decode cX2_reopen 44 = .ok (.iconst 0, 1) := by decide +kernel
theorem dX2_reopen_45 : decode cX2_reopen 45 = .ok (.istore_n 2, 1) := by decide +kernel
theorem dX2_reopen_46 : decode cX2_reopen 46 = .ok (.iload_n 2, 1) := by decide +kernel
theorem dX2_reopen_47 : decode cX2_reopen 47 = .ok (.iconst 3, 1) := by decide +kernel
theorem dX2_reopen_48 : decode cX2_reopen 48 = .ok (.if_icmp .ge 53, 3) := by decide +kernel
theorem dX2_reopen_51 : decode cX2_reopen 51 = .ok (.aload_n 0, 1) := by decide +kernel
theorem dX2_reopen_52 : decode cX2_reopen 52 = .ok (.getfield 13, 3) := by decide +kernel
theorem dX2_reopen_55 : decode cX2_reopen 55 = .ok (.iload_n 2, 1) := by decide +kernel
theorem dX2_reopen_56 : decode cX2_reopen 56 = .ok (.iaload, 1) := by decide +kernel
theorem dX2_reopen_57 : decode cX2_reopen 57 = .ok (.istore_n 3, 1) := by decide +kernel
theorem dX2_reopen_58 : decode cX2_reopen 58 = .ok (.iload_n 3, 1) := by decide +kernel
theorem dX2_reopen_59 : decode cX2_reopen 59 = .ok (.bipush 24, 2) := by decide +kernel
theorem dX2_reopen_61 : decode cX2_reopen 61 = .ok (.iload_n 1, 1) := by decide +kernel
theorem dX2_reopen_62 : decode cX2_reopen 62 = .ok (.imul, 1) := by decide +kernel
theorem dX2_reopen_63 : decode cX2_reopen 63 = .ok (.if_icmp .ge 22, 3) := by decide +kernel
theorem dX2_reopen_66 : decode cX2_reopen 66 = .ok (.aload_n 0, 1) := by decide +kernel
theorem dX2_reopen_67 : decode cX2_reopen 67 = .ok (.getfield 7, 3) := by decide +kernel
theorem dX2_reopen_70 : decode cX2_reopen 70 = .ok (.sipush 1536, 3) := by decide +kernel
theorem dX2_reopen_73 : decode cX2_reopen 73 = .ok (.iload_n 2, 1) := by decide +kernel
theorem dX2_reopen_74 : decode cX2_reopen 74 = .ok (.imul, 1) := by decide +kernel
theorem dX2_reopen_75 : decode cX2_reopen 75 = .ok (.iload_n 3, 1) := by decide +kernel
theorem dX2_reopen_76 : decode cX2_reopen 76 = .ok (.iadd, 1) := by decide +kernel
theorem dX2_reopen_77 : decode cX2_reopen 77 = .ok (.iconst 0, 1) := by decide +kernel
theorem dX2_reopen_78 : decode cX2_reopen 78 = .ok (.iastore, 1) := by decide +kernel
theorem dX2_reopen_79 : decode cX2_reopen 79 = .ok (.iinc 3 1, 3) := by decide +kernel
theorem dX2_reopen_82 : decode cX2_reopen 82 = .ok (.goto (-24), 3) := by decide +kernel
theorem dX2_reopen_85 : decode cX2_reopen 85 = .ok (.aload_n 0, 1) := by decide +kernel
theorem dX2_reopen_86 : decode cX2_reopen 86 = .ok (.getfield 13, 3) := by decide +kernel
theorem dX2_reopen_89 : decode cX2_reopen 89 = .ok (.iload_n 2, 1) := by decide +kernel
theorem dX2_reopen_90 : decode cX2_reopen 90 = .ok (.bipush 24, 2) := by decide +kernel
theorem dX2_reopen_92 : decode cX2_reopen 92 = .ok (.iload_n 1, 1) := by decide +kernel
theorem dX2_reopen_93 : decode cX2_reopen 93 = .ok (.imul, 1) := by decide +kernel
theorem dX2_reopen_94 : decode cX2_reopen 94 = .ok (.iastore, 1) := by decide +kernel
theorem dX2_reopen_95 : decode cX2_reopen 95 = .ok (.iinc 2 1, 3) := by decide +kernel
theorem dX2_reopen_98 : decode cX2_reopen 98 = .ok (.goto (-52), 3) := by decide +kernel
theorem dX2_reopen_101 : decode cX2_reopen 101 = .ok (.aload_n 0, 1) := by decide +kernel
theorem dX2_reopen_102 : decode cX2_reopen 102 = .ok (.iconst 0, 1) := by decide +kernel
theorem dX2_reopen_103 : decode cX2_reopen 103 = .ok (.putfield 72, 3) := by decide +kernel
theorem dX2_reopen_106 : decode cX2_reopen 106 = .ok (.iconst 0, 1) := by decide +kernel
theorem dX2_reopen_107 : decode cX2_reopen 107 = .ok (.istore_n 2, 1) := by decide +kernel
theorem dX2_reopen_108 : decode cX2_reopen 108 = .ok (.iconst 0, 1) := by decide +kernel
theorem dX2_reopen_109 : decode cX2_reopen 109 = .ok (.istore_n 3, 1) := by decide +kernel
theorem dX2_reopen_110 : decode cX2_reopen 110 = .ok (.iload_n 3, 1) := by decide +kernel
theorem dX2_reopen_111 : decode cX2_reopen 111 = .ok (.iconst 2, 1) := by decide +kernel
theorem dX2_reopen_112 : decode cX2_reopen 112 = .ok (.iload_n 1, 1) := by decide +kernel
theorem dX2_reopen_113 : decode cX2_reopen 113 = .ok (.imul, 1) := by decide +kernel
theorem dX2_reopen_114 : decode cX2_reopen 114 = .ok (.if_icmp .ge 40, 3) := by decide +kernel
theorem dX2_reopen_117 : decode cX2_reopen 117 = .ok (.iload_n 2, 1) := by decide +kernel
theorem dX2_reopen_118 : decode cX2_reopen 118 = .ok (.aload_n 0, 1) := by decide +kernel
theorem dX2_reopen_119 : decode cX2_reopen 119 = .ok (.iload_n 3, 1) := by decide +kernel
theorem dX2_reopen_120 : decode cX2_reopen 120 = .ok (.invokestatic 68, 3) := by decide +kernel
theorem dX2_reopen_123 : decode cX2_reopen 123 = .ok (.iload_n 3, 1) := by decide +kernel
theorem dX2_reopen_124 : decode cX2_reopen 124 = .ok (.iconst 2, 1) := by decide +kernel
theorem dX2_reopen_125 : decode cX2_reopen 125 = .ok (.idiv, 1) := by decide +kernel
theorem dX2_reopen_126 : decode cX2_reopen 126 = .ok (.invokevirtual 91, 3) := by decide +kernel
theorem dX2_reopen_129 : decode cX2_reopen 129 = .ok (.ifCond .eq 16, 3) := by decide +kernel
theorem dX2_reopen_132 : decode cX2_reopen 132 = .ok (.aload_n 0, 1) := by decide +kernel
theorem dX2_reopen_133 : decode cX2_reopen 133 = .ok (.getfield 25, 3) := by decide +kernel
theorem dX2_reopen_136 : decode cX2_reopen 136 = .ok (.iconst 3, 1) := by decide +kernel
theorem dX2_reopen_137 : decode cX2_reopen 137 = .ok (.iaload, 1) := by decide +kernel
theorem dX2_reopen_138 : decode cX2_reopen 138 = .ok (.ifCond .eq 7, 3) := by decide +kernel
theorem dX2_reopen_141 : decode cX2_reopen 141 = .ok (.iconst 1, 1) := by decide +kernel
theorem dX2_reopen_142 : decode cX2_reopen 142 = .ok (.goto 4, 3) := by decide +kernel
theorem dX2_reopen_145 : decode cX2_reopen 145 = .ok (.iconst 0, 1) := by decide +kernel
theorem dX2_reopen_146 : decode cX2_reopen 146 = .ok (.iadd, 1) := by decide +kernel
theorem dX2_reopen_147 : decode cX2_reopen 147 = .ok (.istore_n 2, 1) := by decide +kernel
theorem dX2_reopen_148 : decode cX2_reopen 148 = .ok (.iinc 3 1, 3) := by decide +kernel
theorem dX2_reopen_151 : decode cX2_reopen 151 = .ok (.goto (-41), 3) := by decide +kernel
theorem dX2_reopen_154 : decode cX2_reopen 154 = .ok (.iload_n 2, 1) := by decide +kernel
theorem dX2_reopen_155 : decode cX2_reopen 155 = .ok (.ireturn, 1) := by decide +kernel
set_option maxRecDepth 20000 in
theorem ggX2_scrub_X2_stripes : GoodIn wsX2_scrub wsX2_stripes := goodIn_r _ [8, 2, 41, 42, 43, 44, 45, 46, 47, 48, 49, 50, 51, 52, 53] (by decide +kernel) (by decide +kernel)
set_option maxRecDepth 20000 in
theorem gX2_scrub_X2_stripes : GoodIn wsX2_scrub (wsV RX2 76 RX2 yX2_stripes wsX2_stripes) := goodIn_app (goodIn_of _ (by decide +kernel)) ggX2_scrub_X2_stripes
theorem dX2_scrub_0 : decode cX2_scrub 0 = .ok (.aload_n 0, 1) := by decide +kernel
theorem dX2_scrub_1 : decode cX2_scrub 1 = .ok (.iconst 0, 1) := by decide +kernel
theorem dX2_scrub_2 : decode cX2_scrub 2 = .ok (.putfield 32, 3) := by decide +kernel
theorem dX2_scrub_5 : decode cX2_scrub 5 = .ok (.iconst 3, 1) := by decide +kernel
theorem dX2_scrub_6 : decode cX2_scrub 6 = .ok (.aload_n 0, 1) := by decide +kernel
theorem dX2_scrub_7 : decode cX2_scrub 7 = .ok (.invokevirtual 76, 3) := by decide +kernel
theorem dX2_scrub_10 : decode cX2_scrub 10 = .ok (.imul, 1) := by decide +kernel
theorem dX2_scrub_11 : decode cX2_scrub 11 = .ok (.istore_n 2, 1) := by decide +kernel
theorem dX2_scrub_12 : decode cX2_scrub 12 = .ok (.iconst 1, 1) := by decide +kernel
theorem dX2_scrub_13 : decode cX2_scrub 13 = .ok (.istore_n 3, 1) := by decide +kernel
theorem dX2_scrub_14 : decode cX2_scrub 14 = .ok (.iconst 0, 1) := by decide +kernel
theorem dX2_scrub_15 : decode cX2_scrub 15 = .ok (.istore 4, 2) := by decide +kernel
theorem dX2_scrub_17 : decode cX2_scrub 17 = .ok (.iload 4, 2) := by decide +kernel
theorem dX2_scrub_19 : decode cX2_scrub 19 = .ok (.iconst 3, 1) := by decide +kernel
theorem dX2_scrub_20 : decode cX2_scrub 20 = .ok (.if_icmp .ge 35, 3) := by decide +kernel
theorem dX2_scrub_23 : decode cX2_scrub 23 = .ok (.iload_n 3, 1) := by decide +kernel
theorem dX2_scrub_24 : decode cX2_scrub 24 = .ok (.ifCond .eq 23, 3) := by decide +kernel
theorem dX2_scrub_27 : decode cX2_scrub 27 = .ok (.iconst 3, 1) := by decide +kernel
theorem dX2_scrub_28 : decode cX2_scrub 28 = .ok (.aload_n 0, 1) := by decide +kernel
theorem dX2_scrub_29 : decode cX2_scrub 29 = .ok (.getfield 13, 3) := by decide +kernel
theorem dX2_scrub_32 : decode cX2_scrub 32 = .ok (.iload 4, 2) := by decide +kernel
theorem dX2_scrub_34 : decode cX2_scrub 34 = .ok (.iaload, 1) := by decide +kernel
theorem dX2_scrub_35 : decode cX2_scrub 35 = .ok (.imul, 1) := by decide +kernel
theorem dX2_scrub_36 : decode cX2_scrub 36 = .ok (.bipush 24, 2) := by decide +kernel
theorem dX2_scrub_38 : decode cX2_scrub 38 = .ok (.iload_n 2, 1) := by decide +kernel
theorem dX2_scrub_39 : decode cX2_scrub 39 = .ok (.imul, 1) := by decide +kernel
theorem dX2_scrub_40 : decode cX2_scrub 40 = .ok (.if_icmp .ne 7, 3) := by decide +kernel
theorem dX2_scrub_43 : decode cX2_scrub 43 = .ok (.iconst 1, 1) := by decide +kernel
theorem dX2_scrub_44 : decode cX2_scrub 44 = .ok (.goto 4, 3) := by decide +kernel
theorem dX2_scrub_47 : decode cX2_scrub 47 = .ok (.iconst 0, 1) := by decide +kernel
theorem dX2_scrub_48 : decode cX2_scrub 48 = .ok (.istore_n 3, 1) := by decide +kernel
theorem dX2_scrub_49 : decode cX2_scrub 49 = .ok (.iinc 4 1, 3) := by decide +kernel
theorem dX2_scrub_52 : decode cX2_scrub 52 = .ok (.goto (-35), 3) := by decide +kernel
theorem dX2_scrub_55 : decode cX2_scrub 55 = .ok (.iload_n 1, 1) := by decide +kernel
theorem dX2_scrub_56 : decode cX2_scrub 56 = .ok (.iconst 1, 1) := by decide +kernel
theorem dX2_scrub_57 : decode cX2_scrub 57 = .ok (.if_icmp .lt 7, 3) := by decide +kernel
theorem dX2_scrub_60 : decode cX2_scrub 60 = .ok (.iload_n 3, 1) := by decide +kernel
theorem dX2_scrub_61 : decode cX2_scrub 61 = .ok (.ifCond .ne 5, 3) := by decide +kernel
theorem dX2_scrub_64 : decode cX2_scrub 64 = .ok (.iconst (-1), 1) := by decide +kernel
theorem dX2_scrub_65 : decode cX2_scrub 65 = .ok (.ireturn, 1) := by decide +kernel
theorem dX2_scrub_66 : decode cX2_scrub 66 = .ok (.iload_n 2, 1) := by decide +kernel
theorem dX2_scrub_67 : decode cX2_scrub 67 = .ok (.ifCond .ne 5, 3) := by decide +kernel
theorem dX2_scrub_70 : decode cX2_scrub 70 = .ok (.iconst 0, 1) := by decide +kernel
theorem dX2_scrub_71 : decode cX2_scrub 71 = .ok (.ireturn, 1) := by decide +kernel
theorem dX2_scrub_72 : decode cX2_scrub 72 = .ok (.aload_n 0, 1) := by decide +kernel
theorem dX2_scrub_73 : decode cX2_scrub 73 = .ok (.aload_n 0, 1) := by decide +kernel
theorem dX2_scrub_74 : decode cX2_scrub 74 = .ok (.getfield 103, 3) := by decide +kernel
theorem dX2_scrub_77 : decode cX2_scrub 77 = .ok (.iload_n 2, 1) := by decide +kernel
theorem dX2_scrub_78 : decode cX2_scrub 78 = .ok (.if_icmp .lt 7, 3) := by decide +kernel
theorem dX2_scrub_81 : decode cX2_scrub 81 = .ok (.iconst 0, 1) := by decide +kernel
theorem dX2_scrub_82 : decode cX2_scrub 82 = .ok (.goto 7, 3) := by decide +kernel
theorem dX2_scrub_85 : decode cX2_scrub 85 = .ok (.aload_n 0, 1) := by decide +kernel
theorem dX2_scrub_86 : decode cX2_scrub 86 = .ok (.getfield 103, 3) := by decide +kernel
theorem dX2_scrub_89 : decode cX2_scrub 89 = .ok (.putfield 103, 3) := by decide +kernel
theorem dX2_scrub_92 : decode cX2_scrub 92 = .ok (.iconst 0, 1) := by decide +kernel
theorem dX2_scrub_93 : decode cX2_scrub 93 = .ok (.istore 4, 2) := by decide +kernel
theorem dX2_scrub_95 : decode cX2_scrub 95 = .ok (.iload 4, 2) := by decide +kernel
theorem dX2_scrub_97 : decode cX2_scrub 97 = .ok (.iload_n 2, 1) := by decide +kernel
theorem dX2_scrub_98 : decode cX2_scrub 98 = .ok (.if_icmp .ge 40, 3) := by decide +kernel
theorem dX2_scrub_101 : decode cX2_scrub 101 = .ok (.iload 4, 2) := by decide +kernel
theorem dX2_scrub_103 : decode cX2_scrub 103 = .ok (.iload_n 1, 1) := by decide +kernel
theorem dX2_scrub_104 : decode cX2_scrub 104 = .ok (.if_icmp .ge 34, 3) := by decide +kernel
theorem dX2_scrub_107 : decode cX2_scrub 107 = .ok (.aload_n 0, 1) := by decide +kernel
theorem dX2_scrub_108 : decode cX2_scrub 108 = .ok (.getfield 103, 3) := by decide +kernel
theorem dX2_scrub_111 : decode cX2_scrub 111 = .ok (.iload 4, 2) := by decide +kernel
theorem dX2_scrub_113 : decode cX2_scrub 113 = .ok (.iadd, 1) := by decide +kernel
theorem dX2_scrub_114 : decode cX2_scrub 114 = .ok (.iload_n 2, 1) := by decide +kernel
theorem dX2_scrub_115 : decode cX2_scrub 115 = .ok (.irem, 1) := by decide +kernel
theorem dX2_scrub_116 : decode cX2_scrub 116 = .ok (.istore 5, 2) := by decide +kernel
theorem dX2_scrub_118 : decode cX2_scrub 118 = .ok (.aload_n 0, 1) := by decide +kernel
theorem dX2_scrub_119 : decode cX2_scrub 119 = .ok (.iload 5, 2) := by decide +kernel
theorem dX2_scrub_121 : decode cX2_scrub 121 = .ok (.iconst 3, 1) := by decide +kernel
theorem dX2_scrub_122 : decode cX2_scrub 122 = .ok (.irem, 1) := by decide +kernel
theorem dX2_scrub_123 : decode cX2_scrub 123 = .ok (.iload 5, 2) := by decide +kernel
theorem dX2_scrub_125 : decode cX2_scrub 125 = .ok (.iconst 3, 1) := by decide +kernel
theorem dX2_scrub_126 : decode cX2_scrub 126 = .ok (.idiv, 1) := by decide +kernel
theorem dX2_scrub_127 : decode cX2_scrub 127 = .ok (.invokevirtual 100, 3) := by decide +kernel
theorem dX2_scrub_130 : decode cX2_scrub 130 = .ok (.istore 6, 2) := by decide +kernel
theorem dX2_scrub_132 : decode cX2_scrub 132 = .ok (.iinc 4 1, 3) := by decide +kernel
theorem dX2_scrub_135 : decode cX2_scrub 135 = .ok (.goto (-40), 3) := by decide +kernel
theorem dX2_scrub_138 : decode cX2_scrub 138 = .ok (.aload_n 0, 1) := by decide +kernel
theorem dX2_scrub_139 : decode cX2_scrub 139 = .ok (.aload_n 0, 1) := by decide +kernel
theorem dX2_scrub_140 : decode cX2_scrub 140 = .ok (.getfield 103, 3) := by decide +kernel
theorem dX2_scrub_143 : decode cX2_scrub 143 = .ok (.i2l, 1) := by decide +kernel
theorem dX2_scrub_144 : decode cX2_scrub 144 = .ok (.iload_n 1, 1) := by decide +kernel
theorem dX2_scrub_145 : decode cX2_scrub 145 = .ok (.i2l, 1) := by decide +kernel
theorem dX2_scrub_146 : decode cX2_scrub 146 = .ok (.ladd, 1) := by decide +kernel
theorem dX2_scrub_147 : decode cX2_scrub 147 = .ok (.iload_n 2, 1) := by decide +kernel
theorem dX2_scrub_148 : decode cX2_scrub 148 = .ok (.i2l, 1) := by decide +kernel
theorem dX2_scrub_149 : decode cX2_scrub 149 = .ok (.lrem, 1) := by decide +kernel
theorem dX2_scrub_150 : decode cX2_scrub 150 = .ok (.l2i, 1) := by decide +kernel
theorem dX2_scrub_151 : decode cX2_scrub 151 = .ok (.putfield 103, 3) := by decide +kernel
theorem dX2_scrub_154 : decode cX2_scrub 154 = .ok (.iload_n 1, 1) := by decide +kernel
theorem dX2_scrub_155 : decode cX2_scrub 155 = .ok (.ireturn, 1) := by decide +kernel
theorem dX2_mended_0 : decode cX2_mended 0 = .ok (.aload_n 0, 1) := by decide +kernel
theorem dX2_mended_1 : decode cX2_mended 1 = .ok (.iconst 0, 1) := by decide +kernel
theorem dX2_mended_2 : decode cX2_mended 2 = .ok (.putfield 32, 3) := by decide +kernel
theorem dX2_mended_5 : decode cX2_mended 5 = .ok (.aload_n 0, 1) := by decide +kernel
theorem dX2_mended_6 : decode cX2_mended 6 = .ok (.getfield 58, 3) := by decide +kernel
theorem dX2_mended_9 : decode cX2_mended 9 = .ok (.ireturn, 1) := by decide +kernel
set_option maxRecDepth 20000 in
theorem ggX2_badAt_X2_stripes : GoodIn wsX2_badAt wsX2_stripes := goodIn_r _ [6, 7, 18, 19, 20, 21, 22, 23, 24, 25, 26, 27, 28, 29, 30] (by decide +kernel) (by decide +kernel)
set_option maxRecDepth 20000 in
theorem gX2_badAt_X2_stripes : GoodIn wsX2_badAt (wsV RX2 76 RX2 yX2_stripes wsX2_stripes) := goodIn_app (goodIn_of _ (by decide +kernel)) ggX2_badAt_X2_stripes
theorem dX2_badAt_0 : decode cX2_badAt 0 = .ok (.aload_n 0, 1) := by decide +kernel
theorem dX2_badAt_1 : decode cX2_badAt 1 = .ok (.iconst 0, 1) := by decide +kernel
theorem dX2_badAt_2 : decode cX2_badAt 2 = .ok (.putfield 32, 3) := by decide +kernel
theorem dX2_badAt_5 : decode cX2_badAt 5 = .ok (.aload_n 0, 1) := by decide +kernel
theorem dX2_badAt_6 : decode cX2_badAt 6 = .ok (.invokevirtual 76, 3) := by decide +kernel
theorem dX2_badAt_9 : decode cX2_badAt 9 = .ok (.istore_n 1, 1) := by decide +kernel
theorem dX2_badAt_10 : decode cX2_badAt 10 = .ok (.iconst 0, 1) := by decide +kernel
theorem dX2_badAt_11 : decode cX2_badAt 11 = .ok (.istore_n 2, 1) := by decide +kernel
theorem dX2_badAt_12 : decode cX2_badAt 12 = .ok (.iload_n 2, 1) := by decide +kernel
theorem dX2_badAt_13 : decode cX2_badAt 13 = .ok (.iload_n 1, 1) := by decide +kernel
theorem dX2_badAt_14 : decode cX2_badAt 14 = .ok (.if_icmp .ge 53, 3) := by decide +kernel
theorem dX2_badAt_17 : decode cX2_badAt 17 = .ok (.iconst 0, 1) := by decide +kernel
theorem dX2_badAt_18 : decode cX2_badAt 18 = .ok (.istore_n 3, 1) := by decide +kernel
theorem dX2_badAt_19 : decode cX2_badAt 19 = .ok (.iconst 0, 1) := by decide +kernel
theorem dX2_badAt_20 : decode cX2_badAt 20 = .ok (.istore 4, 2) := by decide +kernel
theorem dX2_badAt_22 : decode cX2_badAt 22 = .ok (.iload 4, 2) := by decide +kernel
theorem dX2_badAt_24 : decode cX2_badAt 24 = .ok (.iconst 3, 1) := by decide +kernel
theorem dX2_badAt_25 : decode cX2_badAt 25 = .ok (.if_icmp .ge 27, 3) := by decide +kernel
theorem dX2_badAt_28 : decode cX2_badAt 28 = .ok (.iload_n 3, 1) := by decide +kernel
theorem dX2_badAt_29 : decode cX2_badAt 29 = .ok (.aload_n 0, 1) := by decide +kernel
theorem dX2_badAt_30 : decode cX2_badAt 30 = .ok (.iload 4, 2) := by decide +kernel
theorem dX2_badAt_32 : decode cX2_badAt 32 = .ok (.iload_n 2, 1) := by decide +kernel
theorem dX2_badAt_33 : decode cX2_badAt 33 = .ok (.invokevirtual 41, 3) := by decide +kernel
theorem dX2_badAt_36 : decode cX2_badAt 36 = .ok (.ifCond .eq 7, 3) := by decide +kernel
theorem dX2_badAt_39 : decode cX2_badAt 39 = .ok (.iconst 0, 1) := by decide +kernel
theorem dX2_badAt_40 : decode cX2_badAt 40 = .ok (.goto 4, 3) := by decide +kernel
theorem dX2_badAt_43 : decode cX2_badAt 43 = .ok (.iconst 1, 1) := by decide +kernel
theorem dX2_badAt_44 : decode cX2_badAt 44 = .ok (.iadd, 1) := by decide +kernel
theorem dX2_badAt_45 : decode cX2_badAt 45 = .ok (.istore_n 3, 1) := by decide +kernel
theorem dX2_badAt_46 : decode cX2_badAt 46 = .ok (.iinc 4 1, 3) := by decide +kernel
theorem dX2_badAt_49 : decode cX2_badAt 49 = .ok (.goto (-27), 3) := by decide +kernel
theorem dX2_badAt_52 : decode cX2_badAt 52 = .ok (.iload_n 3, 1) := by decide +kernel
theorem dX2_badAt_53 : decode cX2_badAt 53 = .ok (.iconst 1, 1) := by decide +kernel
theorem dX2_badAt_54 : decode cX2_badAt 54 = .ok (.if_icmp .le 7, 3) := by decide +kernel
theorem dX2_badAt_57 : decode cX2_badAt 57 = .ok (.iconst 1, 1) := by decide +kernel
theorem dX2_badAt_58 : decode cX2_badAt 58 = .ok (.iload_n 2, 1) := by decide +kernel
theorem dX2_badAt_59 : decode cX2_badAt 59 = .ok (.iadd, 1) := by decide +kernel
theorem dX2_badAt_60 : decode cX2_badAt 60 = .ok (.ireturn, 1) := by decide +kernel
theorem dX2_badAt_61 : decode cX2_badAt 61 = .ok (.iinc 2 1, 3) := by decide +kernel
theorem dX2_badAt_64 : decode cX2_badAt 64 = .ok (.goto (-52), 3) := by decide +kernel
theorem dX2_badAt_67 : decode cX2_badAt 67 = .ok (.iconst 0, 1) := by decide +kernel
theorem dX2_badAt_68 : decode cX2_badAt 68 = .ok (.ireturn, 1) := by decide +kernel
set_option maxRecDepth 20000 in
theorem ggX2_byteAt_X2_in : GoodIn wsX2_byteAt wsX2_in := goodIn_r _ [8] (by decide +kernel) (by decide +kernel)
set_option maxRecDepth 20000 in
theorem gX2_byteAt_X2_in : GoodIn wsX2_byteAt (va_wsS RX2 61 yX2_in wsX2_in) := goodIn_app (goodIn_of _ (by decide +kernel)) ggX2_byteAt_X2_in
theorem dX2_byteAt_0 : decode cX2_byteAt 0 = .ok (.aload_n 0, 1) := by decide +kernel
theorem dX2_byteAt_1 : decode cX2_byteAt 1 = .ok (.iload_n 1, 1) := by decide +kernel
theorem dX2_byteAt_2 : decode cX2_byteAt 2 = .ok (.iconst 0, 1) := by decide +kernel
theorem dX2_byteAt_3 : decode cX2_byteAt 3 = .ok (.iconst 2, 1) := by decide +kernel
theorem dX2_byteAt_4 : decode cX2_byteAt 4 = .ok (.invokestatic 61, 3) := by decide +kernel
theorem dX2_byteAt_7 : decode cX2_byteAt 7 = .ok (.ifCond .eq 27, 3) := by decide +kernel
theorem dX2_byteAt_10 : decode cX2_byteAt 10 = .ok (.iload_n 2, 1) := by decide +kernel
theorem dX2_byteAt_11 : decode cX2_byteAt 11 = .ok (.iconst 0, 1) := by decide +kernel
theorem dX2_byteAt_12 : decode cX2_byteAt 12 = .ok (.aload_n 0, 1) := by decide +kernel
theorem dX2_byteAt_13 : decode cX2_byteAt 13 = .ok (.getfield 28, 3) := by decide +kernel
theorem dX2_byteAt_16 : decode cX2_byteAt 16 = .ok (.iconst 1, 1) := by decide +kernel
theorem dX2_byteAt_17 : decode cX2_byteAt 17 = .ok (.isub, 1) := by decide +kernel
theorem dX2_byteAt_18 : decode cX2_byteAt 18 = .ok (.invokestatic 61, 3) := by decide +kernel
theorem dX2_byteAt_21 : decode cX2_byteAt 21 = .ok (.ifCond .eq 13, 3) := by decide +kernel
theorem dX2_byteAt_24 : decode cX2_byteAt 24 = .ok (.iload_n 3, 1) := by decide +kernel
theorem dX2_byteAt_25 : decode cX2_byteAt 25 = .ok (.iconst 0, 1) := by decide +kernel
theorem dX2_byteAt_26 : decode cX2_byteAt 26 = .ok (.bipush 23, 2) := by decide +kernel
theorem dX2_byteAt_28 : decode cX2_byteAt 28 = .ok (.invokestatic 61, 3) := by decide +kernel
theorem dX2_byteAt_31 : decode cX2_byteAt 31 = .ok (.ifCond .ne 7, 3) := by decide +kernel
theorem dX2_byteAt_34 : decode cX2_byteAt 34 = .ok (.iconst 1, 1) := by decide +kernel
theorem dX2_byteAt_35 : decode cX2_byteAt 35 = .ok (.goto 4, 3) := by decide +kernel
theorem dX2_byteAt_38 : decode cX2_byteAt 38 = .ok (.iconst 0, 1) := by decide +kernel
theorem dX2_byteAt_39 : decode cX2_byteAt 39 = .ok (.putfield 32, 3) := by decide +kernel
theorem dX2_byteAt_42 : decode cX2_byteAt 42 = .ok (.aload_n 0, 1) := by decide +kernel
theorem dX2_byteAt_43 : decode cX2_byteAt 43 = .ok (.getfield 32, 3) := by decide +kernel
theorem dX2_byteAt_46 : decode cX2_byteAt 46 = .ok (.ifCond .le 5, 3) := by decide +kernel
theorem dX2_byteAt_49 : decode cX2_byteAt 49 = .ok (.iconst 0, 1) := by decide +kernel
theorem dX2_byteAt_50 : decode cX2_byteAt 50 = .ok (.ireturn, 1) := by decide +kernel
theorem dX2_byteAt_51 : decode cX2_byteAt 51 = .ok (.bipush 24, 2) := by decide +kernel
theorem dX2_byteAt_53 : decode cX2_byteAt 53 = .ok (.iload_n 2, 1) := by decide +kernel
theorem dX2_byteAt_54 : decode cX2_byteAt 54 = .ok (.imul, 1) := by decide +kernel
theorem dX2_byteAt_55 : decode cX2_byteAt 55 = .ok (.iload_n 3, 1) := by decide +kernel
theorem dX2_byteAt_56 : decode cX2_byteAt 56 = .ok (.iadd, 1) := by decide +kernel
theorem dX2_byteAt_57 : decode cX2_byteAt 57 = .ok (.aload_n 0, 1) := by decide +kernel
theorem dX2_byteAt_58 : decode cX2_byteAt 58 = .ok (.getfield 13, 3) := by decide +kernel
theorem dX2_byteAt_61 : decode cX2_byteAt 61 = .ok (.iload_n 1, 1) := by decide +kernel
theorem dX2_byteAt_62 : decode cX2_byteAt 62 = .ok (.iaload, 1) := by decide +kernel
theorem dX2_byteAt_63 : decode cX2_byteAt 63 = .ok (.if_icmp .ge 23, 3) := by decide +kernel
theorem dX2_byteAt_66 : decode cX2_byteAt 66 = .ok (.aload_n 0, 1) := by decide +kernel
theorem dX2_byteAt_67 : decode cX2_byteAt 67 = .ok (.getfield 7, 3) := by decide +kernel
theorem dX2_byteAt_70 : decode cX2_byteAt 70 = .ok (.sipush 1536, 3) := by decide +kernel
theorem dX2_byteAt_73 : decode cX2_byteAt 73 = .ok (.iload_n 1, 1) := by decide +kernel
theorem dX2_byteAt_74 : decode cX2_byteAt 74 = .ok (.imul, 1) := by decide +kernel
theorem dX2_byteAt_75 : decode cX2_byteAt 75 = .ok (.bipush 24, 2) := by decide +kernel
theorem dX2_byteAt_77 : decode cX2_byteAt 77 = .ok (.iload_n 2, 1) := by decide +kernel
theorem dX2_byteAt_78 : decode cX2_byteAt 78 = .ok (.imul, 1) := by decide +kernel
theorem dX2_byteAt_79 : decode cX2_byteAt 79 = .ok (.iadd, 1) := by decide +kernel
theorem dX2_byteAt_80 : decode cX2_byteAt 80 = .ok (.iload_n 3, 1) := by decide +kernel
theorem dX2_byteAt_81 : decode cX2_byteAt 81 = .ok (.iadd, 1) := by decide +kernel
theorem dX2_byteAt_82 : decode cX2_byteAt 82 = .ok (.iaload, 1) := by decide +kernel
theorem dX2_byteAt_83 : decode cX2_byteAt 83 = .ok (.goto 4, 3) := by decide +kernel
theorem dX2_byteAt_86 : decode cX2_byteAt 86 = .ok (.iconst 0, 1) := by decide +kernel
theorem dX2_byteAt_87 : decode cX2_byteAt 87 = .ok (.ireturn, 1) := by decide +kernel
set_option maxRecDepth 20000 in
theorem ggX2_same_X2_in : GoodIn wsX2_same wsX2_in := goodIn_r _ [10] (by decide +kernel) (by decide +kernel)
set_option maxRecDepth 20000 in
theorem gX2_same_X2_in : GoodIn wsX2_same (va_wsS RX2 61 yX2_in wsX2_in) := goodIn_app (goodIn_of _ (by decide +kernel)) ggX2_same_X2_in
theorem dX2_same_0 : decode cX2_same 0 = .ok (.aload_n 0, 1) := by decide +kernel
theorem dX2_same_1 : decode cX2_same 1 = .ok (.iconst 0, 1) := by decide +kernel
theorem dX2_same_2 : decode cX2_same 2 = .ok (.putfield 32, 3) := by decide +kernel
theorem dX2_same_5 : decode cX2_same 5 = .ok (.iload_n 1, 1) := by decide +kernel
theorem dX2_same_6 : decode cX2_same 6 = .ok (.iconst 0, 1) := by decide +kernel
theorem dX2_same_7 : decode cX2_same 7 = .ok (.iconst 2, 1) := by decide +kernel
theorem dX2_same_8 : decode cX2_same 8 = .ok (.invokestatic 61, 3) := by decide +kernel
theorem dX2_same_11 : decode cX2_same 11 = .ok (.ifCond .eq 10, 3) := by decide +kernel
theorem dX2_same_14 : decode cX2_same 14 = .ok (.aload_n 0, 1) := by decide +kernel
theorem dX2_same_15 : decode cX2_same 15 = .ok (.getfield 94, 3) := by decide +kernel
theorem dX2_same_18 : decode cX2_same 18 = .ok (.ifCond .ne 10, 3) := by decide +kernel
theorem dX2_same_21 : decode cX2_same 21 = .ok (.iload_n 1, 1) := by decide +kernel
theorem dX2_same_22 : decode cX2_same 22 = .ok (.iconst 0, 1) := by decide +kernel
theorem dX2_same_23 : decode cX2_same 23 = .ok (.iconst 2, 1) := by decide +kernel
theorem dX2_same_24 : decode cX2_same 24 = .ok (.invokestatic 61, 3) := by decide +kernel
theorem dX2_same_27 : decode cX2_same 27 = .ok (.ireturn, 1) := by decide +kernel
theorem dX2_same_28 : decode cX2_same 28 = .ok (.aload_n 0, 1) := by decide +kernel
theorem dX2_same_29 : decode cX2_same 29 = .ok (.getfield 13, 3) := by decide +kernel
theorem dX2_same_32 : decode cX2_same 32 = .ok (.iload_n 1, 1) := by decide +kernel
theorem dX2_same_33 : decode cX2_same 33 = .ok (.iaload, 1) := by decide +kernel
theorem dX2_same_34 : decode cX2_same 34 = .ok (.aload_n 0, 1) := by decide +kernel
theorem dX2_same_35 : decode cX2_same 35 = .ok (.getfield 19, 3) := by decide +kernel
theorem dX2_same_38 : decode cX2_same 38 = .ok (.iload_n 1, 1) := by decide +kernel
theorem dX2_same_39 : decode cX2_same 39 = .ok (.iaload, 1) := by decide +kernel
theorem dX2_same_40 : decode cX2_same 40 = .ok (.if_icmp .ne 7, 3) := by decide +kernel
theorem dX2_same_43 : decode cX2_same 43 = .ok (.iconst 1, 1) := by decide +kernel
theorem dX2_same_44 : decode cX2_same 44 = .ok (.goto 4, 3) := by decide +kernel
theorem dX2_same_47 : decode cX2_same 47 = .ok (.iconst 0, 1) := by decide +kernel
theorem dX2_same_48 : decode cX2_same 48 = .ok (.istore_n 2, 1) := by decide +kernel
theorem dX2_same_49 : decode cX2_same 49 = .ok (.sipush 1536, 3) := by decide +kernel
theorem dX2_same_52 : decode cX2_same 52 = .ok (.iload_n 1, 1) := by decide +kernel
theorem dX2_same_53 : decode cX2_same 53 = .ok (.imul, 1) := by decide +kernel
theorem dX2_same_54 : decode cX2_same 54 = .ok (.istore_n 3, 1) := by decide +kernel
theorem dX2_same_55 : decode cX2_same 55 = .ok (.iload_n 3, 1) := by decide +kernel
theorem dX2_same_56 : decode cX2_same 56 = .ok (.sipush 1536, 3) := by decide +kernel
theorem dX2_same_59 : decode cX2_same 59 = .ok (.iload_n 1, 1) := by decide +kernel
theorem dX2_same_60 : decode cX2_same 60 = .ok (.imul, 1) := by decide +kernel
theorem dX2_same_61 : decode cX2_same 61 = .ok (.aload_n 0, 1) := by decide +kernel
theorem dX2_same_62 : decode cX2_same 62 = .ok (.getfield 13, 3) := by decide +kernel
theorem dX2_same_65 : decode cX2_same 65 = .ok (.iload_n 1, 1) := by decide +kernel
theorem dX2_same_66 : decode cX2_same 66 = .ok (.iaload, 1) := by decide +kernel
theorem dX2_same_67 : decode cX2_same 67 = .ok (.iadd, 1) := by decide +kernel
theorem dX2_same_68 : decode cX2_same 68 = .ok (.if_icmp .ge 34, 3) := by decide +kernel
theorem dX2_same_71 : decode cX2_same 71 = .ok (.iload_n 2, 1) := by decide +kernel
theorem dX2_same_72 : decode cX2_same 72 = .ok (.ifCond .eq 30, 3) := by decide +kernel
theorem dX2_same_75 : decode cX2_same 75 = .ok (.aload_n 0, 1) := by decide +kernel
theorem dX2_same_76 : decode cX2_same 76 = .ok (.getfield 7, 3) := by decide +kernel
theorem dX2_same_79 : decode cX2_same 79 = .ok (.iload_n 3, 1) := by decide +kernel
theorem dX2_same_80 : decode cX2_same 80 = .ok (.iaload, 1) := by decide +kernel
theorem dX2_same_81 : decode cX2_same 81 = .ok (.aload_n 0, 1) := by decide +kernel
theorem dX2_same_82 : decode cX2_same 82 = .ok (.getfield 16, 3) := by decide +kernel
theorem dX2_same_85 : decode cX2_same 85 = .ok (.iload_n 3, 1) := by decide +kernel
theorem dX2_same_86 : decode cX2_same 86 = .ok (.iaload, 1) := by decide +kernel
theorem dX2_same_87 : decode cX2_same 87 = .ok (.if_icmp .ne 7, 3) := by decide +kernel
theorem dX2_same_90 : decode cX2_same 90 = .ok (.iconst 1, 1) := by decide +kernel
theorem dX2_same_91 : decode cX2_same 91 = .ok (.goto 4, 3) := by decide +kernel
theorem dX2_same_94 : decode cX2_same 94 = .ok (.iconst 0, 1) := by decide +kernel
theorem dX2_same_95 : decode cX2_same 95 = .ok (.istore_n 2, 1) := by decide +kernel
theorem dX2_same_96 : decode cX2_same 96 = .ok (.iinc 3 1, 3) := by decide +kernel
theorem dX2_same_99 : decode cX2_same 99 = .ok (.goto (-44), 3) := by decide +kernel
theorem dX2_same_102 : decode cX2_same 102 = .ok (.iload_n 2, 1) := by decide +kernel
theorem dX2_same_103 : decode cX2_same 103 = .ok (.ireturn, 1) := by decide +kernel
set_option maxRecDepth 20000 in
theorem ggX2_odd_X2_stripes : GoodIn wsX2_odd wsX2_stripes := goodIn_r _ [6, 7, 11, 12, 13, 14, 15, 16, 17, 18, 19, 20, 21, 22, 23] (by decide +kernel) (by decide +kernel)
set_option maxRecDepth 20000 in
theorem gX2_odd_X2_stripes : GoodIn wsX2_odd (wsV RX2 76 RX2 yX2_stripes wsX2_stripes) := goodIn_app (goodIn_of _ (by decide +kernel)) ggX2_odd_X2_stripes
set_option maxRecDepth 20000 in
theorem ggX2_odd_X2_in : GoodIn wsX2_odd wsX2_in := goodIn_r _ [10] (by decide +kernel) (by decide +kernel)
set_option maxRecDepth 20000 in
theorem gX2_odd_X2_in : GoodIn wsX2_odd (va_wsS RX2 61 yX2_in wsX2_in) := goodIn_app (goodIn_of _ (by decide +kernel)) ggX2_odd_X2_in
theorem dX2_odd_0 : decode cX2_odd 0 = .ok (.aload_n 0, 1) := by decide +kernel
theorem dX2_odd_1 : decode cX2_odd 1 = .ok (.iconst 0, 1) := by decide +kernel
theorem dX2_odd_2 : decode cX2_odd 2 = .ok (.putfield 32, 3) := by decide +kernel
theorem dX2_odd_5 : decode cX2_odd 5 = .ok (.iload_n 1, 1) := by decide +kernel
theorem dX2_odd_6 : decode cX2_odd 6 = .ok (.iconst 0, 1) := by decide +kernel
theorem dX2_odd_7 : decode cX2_odd 7 = .ok (.aload_n 0, 1) := by decide +kernel
theorem dX2_odd_8 : decode cX2_odd 8 = .ok (.invokevirtual 76, 3) := by decide +kernel
theorem dX2_odd_11 : decode cX2_odd 11 = .ok (.iconst 1, 1) := by decide +kernel
theorem dX2_odd_12 : decode cX2_odd 12 = .ok (.isub, 1) := by decide +kernel
theorem dX2_odd_13 : decode cX2_odd 13 = .ok (.invokestatic 61, 3) := by decide +kernel
theorem dX2_odd_16 : decode cX2_odd 16 = .ok (.ifCond .eq 9, 3) := by decide +kernel
theorem dX2_odd_19 : decode cX2_odd 19 = .ok (.iload_n 1, 1) := by decide +kernel
theorem dX2_odd_20 : decode cX2_odd 20 = .ok (.iconst 3, 1) := by decide +kernel
theorem dX2_odd_21 : decode cX2_odd 21 = .ok (.irem, 1) := by decide +kernel
theorem dX2_odd_22 : decode cX2_odd 22 = .ok (.goto 4, 3) := by decide +kernel
theorem dX2_odd_25 : decode cX2_odd 25 = .ok (.iconst (-1), 1) := by decide +kernel
theorem dX2_odd_26 : decode cX2_odd 26 = .ok (.ireturn, 1) := by decide +kernel
set_option maxRecDepth 20000 in
theorem ggX2_size_X2_in : GoodIn wsX2_size wsX2_in := goodIn_r _ [6] (by decide +kernel) (by decide +kernel)
set_option maxRecDepth 20000 in
theorem gX2_size_X2_in : GoodIn wsX2_size (va_wsS RX2 61 yX2_in wsX2_in) := goodIn_app (goodIn_of _ (by decide +kernel)) ggX2_size_X2_in
theorem dX2_size_0 : decode cX2_size 0 = .ok (.aload_n 0, 1) := by decide +kernel
theorem dX2_size_1 : decode cX2_size 1 = .ok (.iconst 0, 1) := by decide +kernel
theorem dX2_size_2 : decode cX2_size 2 = .ok (.putfield 32, 3) := by decide +kernel
theorem dX2_size_5 : decode cX2_size 5 = .ok (.iload_n 1, 1) := by decide +kernel
theorem dX2_size_6 : decode cX2_size 6 = .ok (.iconst 0, 1) := by decide +kernel
theorem dX2_size_7 : decode cX2_size 7 = .ok (.iconst 2, 1) := by decide +kernel
theorem dX2_size_8 : decode cX2_size 8 = .ok (.invokestatic 61, 3) := by decide +kernel
theorem dX2_size_11 : decode cX2_size 11 = .ok (.ifCond .eq 12, 3) := by decide +kernel
theorem dX2_size_14 : decode cX2_size 14 = .ok (.aload_n 0, 1) := by decide +kernel
theorem dX2_size_15 : decode cX2_size 15 = .ok (.getfield 13, 3) := by decide +kernel
theorem dX2_size_18 : decode cX2_size 18 = .ok (.iload_n 1, 1) := by decide +kernel
theorem dX2_size_19 : decode cX2_size 19 = .ok (.iaload, 1) := by decide +kernel
theorem dX2_size_20 : decode cX2_size 20 = .ok (.goto 4, 3) := by decide +kernel
theorem dX2_size_23 : decode cX2_size 23 = .ok (.iconst (-1), 1) := by decide +kernel
theorem dX2_size_24 : decode cX2_size 24 = .ok (.ireturn, 1) := by decide +kernel
theorem dJ9_max_7cf53_0 : decode cJ9_max_7cf53 0 = .ok (.iload_n 0, 1) := by decide +kernel
theorem dJ9_max_7cf53_1 : decode cJ9_max_7cf53 1 = .ok (.iload_n 1, 1) := by decide +kernel
theorem dJ9_max_7cf53_2 : decode cJ9_max_7cf53 2 = .ok (.if_icmp .lt 7, 3) := by decide +kernel
theorem dJ9_max_7cf53_5 : decode cJ9_max_7cf53 5 = .ok (.iload_n 0, 1) := by decide +kernel
theorem dJ9_max_7cf53_6 : decode cJ9_max_7cf53 6 = .ok (.goto 4, 3) := by decide +kernel
theorem dJ9_max_7cf53_9 : decode cJ9_max_7cf53 9 = .ok (.iload_n 1, 1) := by decide +kernel
theorem dJ9_max_7cf53_10 : decode cJ9_max_7cf53 10 = .ok (.ireturn, 1) := by decide +kernel
theorem dJ9_min_7cf53_0 : decode cJ9_min_7cf53 0 = .ok (.iload_n 0, 1) := by decide +kernel
theorem dJ9_min_7cf53_1 : decode cJ9_min_7cf53 1 = .ok (.iload_n 1, 1) := by decide +kernel
theorem dJ9_min_7cf53_2 : decode cJ9_min_7cf53 2 = .ok (.if_icmp .gt 7, 3) := by decide +kernel
theorem dJ9_min_7cf53_5 : decode cJ9_min_7cf53 5 = .ok (.iload_n 0, 1) := by decide +kernel
theorem dJ9_min_7cf53_6 : decode cJ9_min_7cf53 6 = .ok (.goto 4, 3) := by decide +kernel
theorem dJ9_min_7cf53_9 : decode cJ9_min_7cf53 9 = .ok (.iload_n 1, 1) := by decide +kernel
theorem dJ9_min_7cf53_10 : decode cJ9_min_7cf53 10 = .ok (.ireturn, 1) := by decide +kernel
