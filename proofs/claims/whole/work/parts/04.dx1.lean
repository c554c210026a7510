theorem dX1_init_0 : decode cX1_init 0 = .ok (.aload_n 0, 1) := by decide +kernel
theorem dX1_init_1 : decode cX1_init 1 = .ok (.invokespecial 1, 3) := by decide +kernel
theorem dX1_init_4 : decode cX1_init 4 = .ok (.aload_n 0, 1) := by decide +kernel
theorem dX1_init_5 : decode cX1_init 5 = .ok (.bipush 24, 2) := by decide +kernel
theorem dX1_init_7 : decode cX1_init 7 = .ok (.newarray .int, 2) := by decide +kernel
theorem dX1_init_9 : decode cX1_init 9 = .ok (.putfield 9, 3) := by decide +kernel
theorem dX1_init_12 : decode cX1_init 12 = .ok (.aload_n 0, 1) := by decide +kernel
theorem dX1_init_13 : decode cX1_init 13 = .ok (.iconst 1, 1) := by decide +kernel
theorem dX1_init_14 : decode cX1_init 14 = .ok (.putfield 13, 3) := by decide +kernel
theorem dX1_init_17 : decode cX1_init 17 = .ok (.aload_n 0, 1) := by decide +kernel
theorem dX1_init_18 : decode cX1_init 18 = .ok (.sipush 4096, 3) := by decide +kernel
theorem dX1_init_21 : decode cX1_init 21 = .ok (.newarray .int, 2) := by decide +kernel
theorem dX1_init_23 : decode cX1_init 23 = .ok (.putfield 17, 3) := by decide +kernel
theorem dX1_init_26 : decode cX1_init 26 = .ok (.aload_n 0, 1) := by decide +kernel
theorem dX1_init_27 : decode cX1_init 27 = .ok (.sipush 4096, 3) := by decide +kernel
theorem dX1_init_30 : decode cX1_init 30 = .ok (.newarray .int, 2) := by decide +kernel
theorem dX1_init_32 : decode cX1_init 32 = .ok (.putfield 20, 3) := by decide +kernel
theorem dX1_init_35 : decode cX1_init 35 = .ok (.aload_n 0, 1) := by decide +kernel
theorem dX1_init_36 : decode cX1_init 36 = .ok (.sipush 4096, 3) := by decide +kernel
theorem dX1_init_39 : decode cX1_init 39 = .ok (.newarray .int, 2) := by decide +kernel
theorem dX1_init_41 : decode cX1_init 41 = .ok (.putfield 23, 3) := by decide +kernel
theorem dX1_init_44 : decode cX1_init 44 = .ok (.aload_n 0, 1) := by decide +kernel
theorem dX1_init_45 : decode cX1_init 45 = .ok (.sipush 4096, 3) := by decide +kernel
theorem dX1_init_48 : decode cX1_init 48 = .ok (.newarray .int, 2) := by decide +kernel
theorem dX1_init_50 : decode cX1_init 50 = .ok (.putfield 26, 3) := by decide +kernel
theorem dX1_init_53 : decode cX1_init 53 = .ok (.aload_n 0, 1) := by decide +kernel
theorem dX1_init_54 : decode cX1_init 54 = .ok (.ldc 29, 2) := by decide +kernel
theorem dX1_init_56 : decode cX1_init 56 = .ok (.newarray .int, 2) := by decide +kernel
theorem dX1_init_58 : decode cX1_init 58 = .ok (.putfield 30, 3) := by decide +kernel
theorem dX1_init_61 : decode cX1_init 61 = .ok (.aload_n 0, 1) := by decide +kernel
theorem dX1_init_62 : decode cX1_init 62 = .ok (.ldc 29, 2) := by decide +kernel
theorem dX1_init_64 : decode cX1_init 64 = .ok (.newarray .long, 2) := by decide +kernel
theorem dX1_init_66 : decode cX1_init 66 = .ok (.putfield 33, 3) := by decide +kernel
theorem dX1_init_69 : decode cX1_init 69 = .ok (.aload_n 0, 1) := by decide +kernel
theorem dX1_init_70 : decode cX1_init 70 = .ok (.ldc 29, 2) := by decide +kernel
theorem dX1_init_72 : decode cX1_init 72 = .ok (.newarray .int, 2) := by decide +kernel
theorem dX1_init_74 : decode cX1_init 74 = .ok (.putfield 37, 3) := by decide +kernel
theorem dX1_init_77 : decode cX1_init 77 = .ok (.aload_n 0, 1) := by decide +kernel
theorem dX1_init_78 : decode cX1_init 78 = .ok (.ldc 40, 2) := by decide +kernel
theorem dX1_init_80 : decode cX1_init 80 = .ok (.newarray .int, 2) := by decide +kernel
theorem dX1_init_82 : decode cX1_init 82 = .ok (.putfield 41, 3) := by decide +kernel
theorem dX1_init_85 : decode cX1_init 85 = .ok (.aload_n 0, 1) := by decide +kernel
theorem dX1_init_86 : decode cX1_init 86 = .ok (.sipush 4096, 3) := by decide +kernel
theorem dX1_init_89 : decode cX1_init 89 = .ok (.newarray .int, 2) := by decide +kernel
theorem dX1_init_91 : decode cX1_init 91 = .ok (.putfield 44, 3) := by decide +kernel
theorem dX1_init_94 : decode cX1_init 94 = .ok (.aload_n 0, 1) := by decide +kernel
theorem dX1_init_95 : decode cX1_init 95 = .ok (.sipush 4096, 3) := by decide +kernel
theorem dX1_init_98 : decode cX1_init 98 = .ok (.newarray .int, 2) := by decide +kernel
theorem dX1_init_100 : decode cX1_init 100 = .ok (.putfield 47, 3) := by decide +kernel
theorem dX1_init_103 : decode cX1_init 103 = .ok (.aload_n 0, 1) := by decide +kernel
theorem dX1_init_104 : decode cX1_init 104 = .ok (.sipush 4096, 3) := by decide +kernel
theorem dX1_init_107 : decode cX1_init 107 = .ok (.newarray .int, 2) := by decide +kernel
theorem dX1_init_109 : decode cX1_init 109 = .ok (.putfield 50, 3) := by decide +kernel
theorem dX1_init_112 : decode cX1_init 112 = .ok (.aload_n 0, 1) := by decide +kernel
theorem dX1_init_113 : decode cX1_init 113 = .ok (.sipush 4096, 3) := by decide +kernel
theorem dX1_init_116 : decode cX1_init 116 = .ok (.newarray .int, 2) := by decide +kernel
theorem dX1_init_118 : decode cX1_init 118 = .ok (.putfield 53, 3) := by decide +kernel
theorem dX1_init_121 : decode cX1_init 121 = .ok (.aload_n 0, 1) := by decide +kernel
theorem dX1_init_122 : decode cX1_init 122 = .ok (.sipush 4096, 3) := by decide +kernel
theorem dX1_init_125 : decode cX1_init 125 = .ok (.newarray .long, 2) := by decide +kernel
theorem dX1_init_127 : decode cX1_init 127 = .ok (.putfield 56, 3) := by decide +kernel
theorem dX1_init_130 : decode cX1_init 130 = .ok (.aload_n 0, 1) := by decide +kernel
theorem dX1_init_131 : decode cX1_init 131 = .ok (.sipush 4096, 3) := by decide +kernel
theorem dX1_init_134 : decode cX1_init 134 = .ok (.newarray .int, 2) := by decide +kernel
theorem dX1_init_136 : decode cX1_init 136 = .ok (.putfield 59, 3) := by decide +kernel
theorem dX1_init_139 : decode cX1_init 139 = .ok (.aload_n 0, 1) := by decide +kernel
theorem dX1_init_140 : decode cX1_init 140 = .ok (.sipush 4096, 3) := by decide +kernel
theorem dX1_init_143 : decode cX1_init 143 = .ok (.newarray .boolean, 2) := by decide +kernel
theorem dX1_init_145 : decode cX1_init 145 = .ok (.putfield 62, 3) := by decide +kernel
theorem dX1_init_148 : decode cX1_init 148 = .ok (.aload_n 0, 1) := by decide +kernel
theorem dX1_init_149 : decode cX1_init 149 = .ok (.sipush 4096, 3) := by decide +kernel
theorem dX1_init_152 : decode cX1_init 152 = .ok (.newarray .int, 2) := by decide +kernel
theorem dX1_init_154 : decode cX1_init 154 = .ok (.putfield 66, 3) := by decide +kernel
theorem dX1_init_157 : decode cX1_init 157 = .ok (.aload_n 0, 1) := by decide +kernel
theorem dX1_init_158 : decode cX1_init 158 = .ok (.iload_n 1, 1) := by decide +kernel
theorem dX1_init_159 : decode cX1_init 159 = .ok (.bipush 16, 2) := by decide +kernel
theorem dX1_init_161 : decode cX1_init 161 = .ok (.if_icmp .ge 8, 3) := by decide +kernel
theorem dX1_init_164 : decode cX1_init 164 = .ok (.bipush 16, 2) := by decide +kernel
theorem dX1_init_166 : decode cX1_init 166 = .ok (.goto 15, 3) := by decide +kernel
theorem dX1_init_169 : decode cX1_init 169 = .ok (.iload_n 1, 1) := by decide +kernel
theorem dX1_init_170 : decode cX1_init 170 = .ok (.ldc 69, 2) := by decide +kernel
theorem dX1_init_172 : decode cX1_init 172 = .ok (.if_icmp .le 8, 3) := by decide +kernel
theorem dX1_init_175 : decode cX1_init 175 = .ok (.ldc 69, 2) := by decide +kernel
theorem dX1_init_177 : decode cX1_init 177 = .ok (.goto 4, 3) := by decide +kernel
theorem dX1_init_180 : decode cX1_init 180 = .ok (.iload_n 1, 1) := by decide +kernel
theorem dX1_init_181 : decode cX1_init 181 = .ok (.putfield 70, 3) := by decide +kernel
theorem dX1_init_184 : decode cX1_init 184 = .ok (.return_, 1) := by decide +kernel
theorem dX1_thrown_0 : decode cX1_thrown 0 = .ok (.aload_n 0, 1) := by decide +kernel
theorem dX1_thrown_1 : decode cX1_thrown 1 = .ok (.getfield 73, 3) := by decide +kernel
theorem dX1_thrown_4 : decode cX1_thrown 4 = .ok (.ireturn, 1) := by decide +kernel
theorem dX1_in_0 : decode cX1_in 0 = .ok (.iload_n 0, 1) := by decide +kernel
theorem dX1_in_1 : decode cX1_in 1 = .ok (.iload_n 1, 1) := by decide +kernel
theorem dX1_in_2 : decode cX1_in 2 = .ok (.if_icmp .lt 12, 3) := by decide +kernel
theorem dX1_in_5 : decode cX1_in 5 = .ok (.iload_n 0, 1) := by decide +kernel
theorem dX1_in_6 : decode cX1_in 6 = .ok (.iload_n 2, 1) := by decide +kernel
theorem dX1_in_7 : decode cX1_in 7 = .ok (.if_icmp .gt 7, 3) := by decide +kernel
theorem dX1_in_10 : decode cX1_in 10 = .ok (.iconst 1, 1) := by decide +kernel
theorem dX1_in_11 : decode cX1_in 11 = .ok (.goto 4, 3) := by decide +kernel
theorem dX1_in_14 : decode cX1_in 14 = .ok (.iconst 0, 1) := by decide +kernel
theorem dX1_in_15 : decode cX1_in 15 = .ok (.ireturn, 1) := by decide +kernel
set_option maxRecDepth 20000 in
theorem ggX1_isRoot_X1_in : GoodIn wsX1_isRoot wsX1_in := goodIn_r _ [4] (by decide +kernel) (by decide +kernel)
set_option maxRecDepth 20000 in
theorem gX1_isRoot_X1_in : GoodIn wsX1_isRoot (va_wsS RX1 76 yX1_in wsX1_in) := goodIn_app (goodIn_of _ (by decide +kernel)) ggX1_isRoot_X1_in
theorem dX1_isRoot_0 : decode cX1_isRoot 0 = .ok (.iload_n 0, 1) := by decide +kernel
theorem dX1_isRoot_1 : decode cX1_isRoot 1 = .ok (.iconst 0, 1) := by decide +kernel
theorem dX1_isRoot_2 : decode cX1_isRoot 2 = .ok (.bipush 23, 2) := by decide +kernel
theorem dX1_isRoot_4 : decode cX1_isRoot 4 = .ok (.invokestatic 76, 3) := by decide +kernel
theorem dX1_isRoot_7 : decode cX1_isRoot 7 = .ok (.ireturn, 1) := by decide +kernel
theorem dX1_says_0 : decode cX1_says 0 = .ok (.aload_n 0, 1) := by decide +kernel
theorem dX1_says_1 : decode cX1_says 1 = .ok (.iload_n 1, 1) := by decide +kernel
theorem dX1_says_2 : decode cX1_says 2 = .ok (.ifCond .eq 7, 3) := by decide +kernel
theorem dX1_says_5 : decode cX1_says 5 = .ok (.iconst 0, 1) := by decide +kernel
theorem dX1_says_6 : decode cX1_says 6 = .ok (.goto 4, 3) := by decide +kernel
theorem dX1_says_9 : decode cX1_says 9 = .ok (.iconst 1, 1) := by decide +kernel
theorem dX1_says_10 : decode cX1_says 10 = .ok (.putfield 73, 3) := by decide +kernel
theorem dX1_says_13 : decode cX1_says 13 = .ok (.iload_n 1, 1) := by decide +kernel
theorem dX1_says_14 : decode cX1_says 14 = .ok (.ireturn, 1) := by decide +kernel
theorem dX1_words_0 : decode cX1_words 0 = .ok (.aload_n 0, 1) := by decide +kernel
theorem dX1_words_1 : decode cX1_words 1 = .ok (.getfield 17, 3) := by decide +kernel
theorem dX1_words_4 : decode cX1_words 4 = .ok (.iload_n 1, 1) := by decide +kernel
theorem dX1_words_5 : decode cX1_words 5 = .ok (.iaload, 1) := by decide +kernel
theorem dX1_words_6 : decode cX1_words 6 = .ok (.iconst 1, 1) := by decide +kernel
theorem dX1_words_7 : decode cX1_words 7 = .ok (.if_icmp .ne 28, 3) := by decide +kernel
theorem dX1_words_10 : decode cX1_words 10 = .ok (.iconst 3, 1) := by decide +kernel
theorem dX1_words_11 : decode cX1_words 11 = .ok (.aload_n 0, 1) := by decide +kernel
theorem dX1_words_12 : decode cX1_words 12 = .ok (.getfield 20, 3) := by decide +kernel
theorem dX1_words_15 : decode cX1_words 15 = .ok (.iload_n 1, 1) := by decide +kernel
theorem dX1_words_16 : decode cX1_words 16 = .ok (.iaload, 1) := by decide +kernel
theorem dX1_words_17 : decode cX1_words 17 = .ok (.iadd, 1) := by decide +kernel
theorem dX1_words_18 : decode cX1_words 18 = .ok (.iconst 2, 1) := by decide +kernel
theorem dX1_words_19 : decode cX1_words 19 = .ok (.aload_n 0, 1) := by decide +kernel
theorem dX1_words_20 : decode cX1_words 20 = .ok (.getfield 23, 3) := by decide +kernel
theorem dX1_words_23 : decode cX1_words 23 = .ok (.iload_n 1, 1) := by decide +kernel
theorem dX1_words_24 : decode cX1_words 24 = .ok (.iaload, 1) := by decide +kernel
theorem dX1_words_25 : decode cX1_words 25 = .ok (.imul, 1) := by decide +kernel
theorem dX1_words_26 : decode cX1_words 26 = .ok (.iadd, 1) := by decide +kernel
theorem dX1_words_27 : decode cX1_words 27 = .ok (.aload_n 0, 1) := by decide +kernel
theorem dX1_words_28 : decode cX1_words 28 = .ok (.getfield 26, 3) := by decide +kernel
theorem dX1_words_31 : decode cX1_words 31 = .ok (.iload_n 1, 1) := by decide +kernel
theorem dX1_words_32 : decode cX1_words 32 = .ok (.iaload, 1) := by decide +kernel
theorem dX1_words_33 : decode cX1_words 33 = .ok (.iadd, 1) := by decide +kernel
theorem dX1_words_34 : decode cX1_words 34 = .ok (.ireturn, 1) := by decide +kernel
theorem dX1_words_35 : decode cX1_words 35 = .ok (.aload_n 0, 1) := by decide +kernel
theorem dX1_words_36 : decode cX1_words 36 = .ok (.getfield 17, 3) := by decide +kernel
theorem dX1_words_39 : decode cX1_words 39 = .ok (.iload_n 1, 1) := by decide +kernel
theorem dX1_words_40 : decode cX1_words 40 = .ok (.iaload, 1) := by decide +kernel
theorem dX1_words_41 : decode cX1_words 41 = .ok (.iconst 2, 1) := by decide +kernel
theorem dX1_words_42 : decode cX1_words 42 = .ok (.if_icmp .eq 13, 3) := by decide +kernel
theorem dX1_words_45 : decode cX1_words 45 = .ok (.aload_n 0, 1) := by decide +kernel
theorem dX1_words_46 : decode cX1_words 46 = .ok (.getfield 17, 3) := by decide +kernel
theorem dX1_words_49 : decode cX1_words 49 = .ok (.iload_n 1, 1) := by decide +kernel
theorem dX1_words_50 : decode cX1_words 50 = .ok (.iaload, 1) := by decide +kernel
theorem dX1_words_51 : decode cX1_words 51 = .ok (.iconst 5, 1) := by decide +kernel
theorem dX1_words_52 : decode cX1_words 52 = .ok (.if_icmp .ne 18, 3) := by decide +kernel
theorem dX1_words_55 : decode cX1_words 55 = .ok (.iconst 4, 1) := by decide +kernel
theorem dX1_words_56 : decode cX1_words 56 = .ok (.aload_n 0, 1) := by decide +kernel
theorem dX1_words_57 : decode cX1_words 57 = .ok (.getfield 44, 3) := by decide +kernel
theorem dX1_words_60 : decode cX1_words 60 = .ok (.iload_n 1, 1) := by decide +kernel
theorem dX1_words_61 : decode cX1_words 61 = .ok (.iaload, 1) := by decide +kernel
theorem dX1_words_62 : decode cX1_words 62 = .ok (.iconst 1, 1) := by decide +kernel
theorem dX1_words_63 : decode cX1_words 63 = .ok (.iadd, 1) := by decide +kernel
theorem dX1_words_64 : decode cX1_words 64 = .ok (.iconst 2, 1) := by decide +kernel
theorem dX1_words_65 : decode cX1_words 65 = .ok (.idiv, 1) := by decide +kernel
theorem dX1_words_66 : decode cX1_words 66 = .ok (.iadd, 1) := by decide +kernel
theorem dX1_words_67 : decode cX1_words 67 = .ok (.goto 5, 3) := by decide +kernel
theorem dX1_words_70 : decode cX1_words 70 = .ok (.bipush 6, 2) := by decide +kernel
theorem dX1_words_72 : decode cX1_words 72 = .ok (.ireturn, 1) := by decide +kernel
theorem dX1_come_0 : decode cX1_come 0 = .ok (.iload_n 1, 1) := by decide +kernel
theorem dX1_come_1 : decode cX1_come 1 = .ok (.ifCond .eq 12, 3) := by decide +kernel
theorem dX1_come_4 : decode cX1_come 4 = .ok (.aload_n 0, 1) := by decide +kernel
theorem dX1_come_5 : decode cX1_come 5 = .ok (.getfield 62, 3) := by decide +kernel
theorem dX1_come_8 : decode cX1_come 8 = .ok (.iload_n 1, 1) := by decide +kernel
theorem dX1_come_9 : decode cX1_come 9 = .ok (.baload, 1) := by decide +kernel
theorem dX1_come_10 : decode cX1_come 10 = .ok (.ifCond .eq 4, 3) := by decide +kernel
theorem dX1_come_13 : decode cX1_come 13 = .ok (.return_, 1) := by decide +kernel
theorem dX1_come_14 : decode cX1_come 14 = .ok (.aload_n 0, 1) := by decide +kernel
theorem dX1_come_15 : decode cX1_come 15 = .ok (.getfield 62, 3) := by decide +kernel
theorem dX1_come_18 : decode cX1_come 18 = .ok (.iload_n 1, 1) := by decide +kernel
theorem dX1_come_19 : decode cX1_come 19 = .ok (.iconst 1, 1) := by decide +kernel
theorem dX1_come_20 : decode cX1_come 20 = .ok (.bastore, 1) := by decide +kernel
theorem dX1_come_21 : decode cX1_come 21 = .ok (.aload_n 0, 1) := by decide +kernel
theorem dX1_come_22 : decode cX1_come 22 = .ok (.getfield 66, 3) := by decide +kernel
theorem dX1_come_25 : decode cX1_come 25 = .ok (.aload_n 0, 1) := by decide +kernel
theorem dX1_come_26 : decode cX1_come 26 = .ok (.getfield 80, 3) := by decide +kernel
theorem dX1_come_29 : decode cX1_come 29 = .ok (.iload_n 1, 1) := by decide +kernel
theorem dX1_come_30 : decode cX1_come 30 = .ok (.iastore, 1) := by decide +kernel
theorem dX1_come_31 : decode cX1_come 31 = .ok (.aload_n 0, 1) := by decide +kernel
theorem dX1_come_32 : decode cX1_come 32 = .ok (.dup, 1) := by decide +kernel
theorem dX1_come_33 : decode cX1_come 33 = .ok (.getfield 80, 3) := by decide +kernel
theorem dX1_come_36 : decode cX1_come 36 = .ok (.iconst 1, 1) := by decide +kernel
theorem dX1_come_37 : decode cX1_come 37 = .ok (.iadd, 1) := by decide +kernel
theorem dX1_come_38 : decode cX1_come 38 = .ok (.putfield 80, 3) := by decide +kernel
theorem dX1_come_41 : decode cX1_come 41 = .ok (.return_, 1) := by decide +kernel
set_option maxRecDepth 20000 in
theorem ggX1_look_X1_come : GoodIn wsX1_look wsX1_come := goodIn_r _ [18, 3, 5, 1, 19, 20, 21, 22, 23, 24, 25, 26, 27, 28, 29, 30, 31, 32, 33, 34, 35, 36, 37, 38, 39] (by decide +kernel) (by decide +kernel)
set_option maxRecDepth 20000 in
theorem gX1_look_X1_come : GoodIn wsX1_look (wsV RX1 83 RX1 yX1_come wsX1_come) := goodIn_app (goodIn_of _ (by decide +kernel)) ggX1_look_X1_come
theorem dX1_look_0 : decode cX1_look 0 = .ok (.aload_n 0, 1) := by decide +kernel
theorem dX1_look_1 : decode cX1_look 1 = .ok (.iconst 0, 1) := by decide +kernel
theorem dX1_look_2 : decode cX1_look 2 = .ok (.putfield 80, 3) := by decide +kernel
theorem dX1_look_5 : decode cX1_look 5 = .ok (.iconst 0, 1) := by decide +kernel
theorem dX1_look_6 : decode cX1_look 6 = .ok (.istore_n 1, 1) := by decide +kernel
theorem dX1_look_7 : decode cX1_look 7 = .ok (.iload_n 1, 1) := by decide +kernel
theorem dX1_look_8 : decode cX1_look 8 = .ok (.aload_n 0, 1) := by decide +kernel
theorem dX1_look_9 : decode cX1_look 9 = .ok (.getfield 13, 3) := by decide +kernel
theorem dX1_look_12 : decode cX1_look 12 = .ok (.if_icmp .ge 16, 3) := by decide +kernel
theorem dX1_look_15 : decode cX1_look 15 = .ok (.aload_n 0, 1) := by decide +kernel
theorem dX1_look_16 : decode cX1_look 16 = .ok (.getfield 62, 3) := by decide +kernel
theorem dX1_look_19 : decode cX1_look 19 = .ok (.iload_n 1, 1) := by decide +kernel
theorem dX1_look_20 : decode cX1_look 20 = .ok (.iconst 0, 1) := by decide +kernel
theorem dX1_look_21 : decode cX1_look 21 = .ok (.bastore, 1) := by decide +kernel
theorem dX1_look_22 : decode cX1_look 22 = .ok (.iinc 1 1, 3) := by decide +kernel
theorem dX1_look_25 : decode cX1_look 25 = .ok (.goto (-18), 3) := by decide +kernel
theorem dX1_look_28 : decode cX1_look 28 = .ok (.iconst 0, 1) := by decide +kernel
theorem dX1_look_29 : decode cX1_look 29 = .ok (.istore_n 1, 1) := by decide +kernel
theorem dX1_look_30 : decode cX1_look 30 = .ok (.iload_n 1, 1) := by decide +kernel
theorem dX1_look_31 : decode cX1_look 31 = .ok (.bipush 24, 2) := by decide +kernel
theorem dX1_look_33 : decode cX1_look 33 = .ok (.if_icmp .ge 19, 3) := by decide +kernel
theorem dX1_look_36 : decode cX1_look 36 = .ok (.aload_n 0, 1) := by decide +kernel
theorem dX1_look_37 : decode cX1_look 37 = .ok (.aload_n 0, 1) := by decide +kernel
theorem dX1_look_38 : decode cX1_look 38 = .ok (.getfield 9, 3) := by decide +kernel
theorem dX1_look_41 : decode cX1_look 41 = .ok (.iload_n 1, 1) := by decide +kernel
theorem dX1_look_42 : decode cX1_look 42 = .ok (.iaload, 1) := by decide +kernel
theorem dX1_look_43 : decode cX1_look 43 = .ok (.invokevirtual 83, 3) := by decide +kernel
theorem dX1_look_46 : decode cX1_look 46 = .ok (.iinc 1 1, 3) := by decide +kernel
theorem dX1_look_49 : decode cX1_look 49 = .ok (.goto (-19), 3) := by decide +kernel
theorem dX1_look_52 : decode cX1_look 52 = .ok (.iconst 0, 1) := by decide +kernel
theorem dX1_look_53 : decode cX1_look 53 = .ok (.istore_n 1, 1) := by decide +kernel
theorem dX1_look_54 : decode cX1_look 54 = .ok (.iload_n 1, 1) := by decide +kernel
theorem dX1_look_55 : decode cX1_look 55 = .ok (.aload_n 0, 1) := by decide +kernel
theorem dX1_look_56 : decode cX1_look 56 = .ok (.getfield 80, 3) := by decide +kernel
theorem dX1_look_59 : decode cX1_look 59 = .ok (.if_icmp .ge 148, 3) := by decide +kernel
theorem dX1_look_62 : decode cX1_look 62 = .ok (.aload_n 0, 1) := by decide +kernel
theorem dX1_look_63 : decode cX1_look 63 = .ok (.getfield 66, 3) := by decide +kernel
theorem dX1_look_66 : decode cX1_look 66 = .ok (.iload_n 1, 1) := by decide +kernel
theorem dX1_look_67 : decode cX1_look 67 = .ok (.iaload, 1) := by decide +kernel
theorem dX1_look_68 : decode cX1_look 68 = .ok (.istore_n 2, 1) := by decide +kernel
theorem dX1_look_69 : decode cX1_look 69 = .ok (.bipush 8, 2) := by decide +kernel
theorem dX1_look_71 : decode cX1_look 71 = .ok (.iload_n 2, 1) := by decide +kernel
theorem dX1_look_72 : decode cX1_look 72 = .ok (.imul, 1) := by decide +kernel
theorem dX1_look_73 : decode cX1_look 73 = .ok (.istore_n 3, 1) := by decide +kernel
theorem dX1_look_74 : decode cX1_look 74 = .ok (.iload_n 3, 1) := by decide +kernel
theorem dX1_look_75 : decode cX1_look 75 = .ok (.bipush 8, 2) := by decide +kernel
theorem dX1_look_77 : decode cX1_look 77 = .ok (.iload_n 2, 1) := by decide +kernel
theorem dX1_look_78 : decode cX1_look 78 = .ok (.imul, 1) := by decide +kernel
theorem dX1_look_79 : decode cX1_look 79 = .ok (.aload_n 0, 1) := by decide +kernel
theorem dX1_look_80 : decode cX1_look 80 = .ok (.getfield 20, 3) := by decide +kernel
theorem dX1_look_83 : decode cX1_look 83 = .ok (.iload_n 2, 1) := by decide +kernel
theorem dX1_look_84 : decode cX1_look 84 = .ok (.iaload, 1) := by decide +kernel
theorem dX1_look_85 : decode cX1_look 85 = .ok (.iadd, 1) := by decide +kernel
theorem dX1_look_86 : decode cX1_look 86 = .ok (.if_icmp .ge 19, 3) := by decide +kernel
theorem dX1_look_89 : decode cX1_look 89 = .ok (.aload_n 0, 1) := by decide +kernel
theorem dX1_look_90 : decode cX1_look 90 = .ok (.aload_n 0, 1) := by decide +kernel
theorem dX1_look_91 : decode cX1_look 91 = .ok (.getfield 30, 3) := by decide +kernel
theorem dX1_look_94 : decode cX1_look 94 = .ok (.iload_n 3, 1) := by decide +kernel
theorem dX1_look_95 : decode cX1_look 95 = .ok (.iaload, 1) := by decide +kernel
theorem dX1_look_96 : decode cX1_look 96 = .ok (.invokevirtual 83, 3) := by decide +kernel
theorem dX1_look_99 : decode cX1_look 99 = .ok (.iinc 3 1, 3) := by decide +kernel
theorem dX1_look_102 : decode cX1_look 102 = .ok (.goto (-28), 3) := by decide +kernel
theorem dX1_look_105 : decode cX1_look 105 = .ok (.bipush 8, 2) := by decide +kernel
theorem dX1_look_107 : decode cX1_look 107 = .ok (.iload_n 2, 1) := by decide +kernel
theorem dX1_look_108 : decode cX1_look 108 = .ok (.imul, 1) := by decide +kernel
theorem dX1_look_109 : decode cX1_look 109 = .ok (.istore_n 3, 1) := by decide +kernel
theorem dX1_look_110 : decode cX1_look 110 = .ok (.iload_n 3, 1) := by decide +kernel
theorem dX1_look_111 : decode cX1_look 111 = .ok (.bipush 8, 2) := by decide +kernel
theorem dX1_look_113 : decode cX1_look 113 = .ok (.iload_n 2, 1) := by decide +kernel
theorem dX1_look_114 : decode cX1_look 114 = .ok (.imul, 1) := by decide +kernel
theorem dX1_look_115 : decode cX1_look 115 = .ok (.aload_n 0, 1) := by decide +kernel
theorem dX1_look_116 : decode cX1_look 116 = .ok (.getfield 23, 3) := by decide +kernel
theorem dX1_look_119 : decode cX1_look 119 = .ok (.iload_n 2, 1) := by decide +kernel
theorem dX1_look_120 : decode cX1_look 120 = .ok (.iaload, 1) := by decide +kernel
theorem dX1_look_121 : decode cX1_look 121 = .ok (.iadd, 1) := by decide +kernel
theorem dX1_look_122 : decode cX1_look 122 = .ok (.if_icmp .ge 19, 3) := by decide +kernel
theorem dX1_look_125 : decode cX1_look 125 = .ok (.aload_n 0, 1) := by decide +kernel
theorem dX1_look_126 : decode cX1_look 126 = .ok (.aload_n 0, 1) := by decide +kernel
theorem dX1_look_127 : decode cX1_look 127 = .ok (.getfield 37, 3) := by decide +kernel
theorem dX1_look_130 : decode cX1_look 130 = .ok (.iload_n 3, 1) := by decide +kernel
theorem dX1_look_131 : decode cX1_look 131 = .ok (.iaload, 1) := by decide +kernel
theorem dX1_look_132 : decode cX1_look 132 = .ok (.invokevirtual 83, 3) := by decide +kernel
theorem dX1_look_135 : decode cX1_look 135 = .ok (.iinc 3 1, 3) := by decide +kernel
theorem dX1_look_138 : decode cX1_look 138 = .ok (.goto (-28), 3) := by decide +kernel
theorem dX1_look_141 : decode cX1_look 141 = .ok (.aload_n 0, 1) := by decide +kernel
theorem dX1_look_142 : decode cX1_look 142 = .ok (.getfield 17, 3) := by decide +kernel
theorem dX1_look_145 : decode cX1_look 145 = .ok (.iload_n 2, 1) := by decide +kernel
theorem dX1_look_146 : decode cX1_look 146 = .ok (.iaload, 1) := by decide +kernel
theorem dX1_look_147 : decode cX1_look 147 = .ok (.iconst 3, 1) := by decide +kernel
theorem dX1_look_148 : decode cX1_look 148 = .ok (.if_icmp .ne 13, 3) := by decide +kernel
theorem dX1_look_151 : decode cX1_look 151 = .ok (.aload_n 0, 1) := by decide +kernel
theorem dX1_look_152 : decode cX1_look 152 = .ok (.aload_n 0, 1) := by decide +kernel
theorem dX1_look_153 : decode cX1_look 153 = .ok (.getfield 50, 3) := by decide +kernel
theorem dX1_look_156 : decode cX1_look 156 = .ok (.iload_n 2, 1) := by decide +kernel
theorem dX1_look_157 : decode cX1_look 157 = .ok (.iaload, 1) := by decide +kernel
theorem dX1_look_158 : decode cX1_look 158 = .ok (.invokevirtual 83, 3) := by decide +kernel
theorem dX1_look_161 : decode cX1_look 161 = .ok (.aload_n 0, 1) := by decide +kernel
theorem dX1_look_162 : decode cX1_look 162 = .ok (.getfield 17, 3) := by decide +kernel
theorem dX1_look_165 : decode cX1_look 165 = .ok (.iload_n 2, 1) := by decide +kernel
theorem dX1_look_166 : decode cX1_look 166 = .ok (.iaload, 1) := by decide +kernel
theorem dX1_look_167 : decode cX1_look 167 = .ok (.iconst 3, 1) := by decide +kernel
theorem dX1_look_168 : decode cX1_look 168 = .ok (.if_icmp .ne 13, 3) := by decide +kernel
theorem dX1_look_171 : decode cX1_look 171 = .ok (.aload_n 0, 1) := by decide +kernel
theorem dX1_look_172 : decode cX1_look 172 = .ok (.aload_n 0, 1) := by decide +kernel
theorem dX1_look_173 : decode cX1_look 173 = .ok (.getfield 53, 3) := by decide +kernel
theorem dX1_look_176 : decode cX1_look 176 = .ok (.iload_n 2, 1) := by decide +kernel
theorem dX1_look_177 : decode cX1_look 177 = .ok (.iaload, 1) := by decide +kernel
theorem dX1_look_178 : decode cX1_look 178 = .ok (.invokevirtual 83, 3) := by decide +kernel
theorem dX1_look_181 : decode cX1_look 181 = .ok (.aload_n 0, 1) := by decide +kernel
theorem dX1_look_182 : decode cX1_look 182 = .ok (.getfield 17, 3) := by decide +kernel
theorem dX1_look_185 : decode cX1_look 185 = .ok (.iload_n 2, 1) := by decide +kernel
theorem dX1_look_186 : decode cX1_look 186 = .ok (.iaload, 1) := by decide +kernel
theorem dX1_look_187 : decode cX1_look 187 = .ok (.iconst 4, 1) := by decide +kernel
theorem dX1_look_188 : decode cX1_look 188 = .ok (.if_icmp .ne 13, 3) := by decide +kernel
theorem dX1_look_191 : decode cX1_look 191 = .ok (.aload_n 0, 1) := by decide +kernel
theorem dX1_look_192 : decode cX1_look 192 = .ok (.aload_n 0, 1) := by decide +kernel
theorem dX1_look_193 : decode cX1_look 193 = .ok (.getfield 59, 3) := by decide +kernel
theorem dX1_look_196 : decode cX1_look 196 = .ok (.iload_n 2, 1) := by decide +kernel
theorem dX1_look_197 : decode cX1_look 197 = .ok (.iaload, 1) := by decide +kernel
theorem dX1_look_198 : decode cX1_look 198 = .ok (.invokevirtual 83, 3) := by decide +kernel
theorem dX1_look_201 : decode cX1_look 201 = .ok (.iinc 1 1, 3) := by decide +kernel
theorem dX1_look_204 : decode cX1_look 204 = .ok (.goto (-150), 3) := by decide +kernel
theorem dX1_look_207 : decode cX1_look 207 = .ok (.return_, 1) := by decide +kernel
set_option maxRecDepth 20000 in
theorem ggX1_taken_X1_look : GoodIn wsX1_taken wsX1_look := goodIn_r _ [7, 1, 8, 9, 10, 2, 11, 12, 13, 14, 15, 16, 17, 18, 19, 20, 21, 6, 22, 29, 30, 31, 32, 33, 34, 35, 36, 37, 38, 39, 40, 41, 42, 43, 44, 45, 46, 47, 48, 49] (by decide +kernel) (by decide +kernel)
set_option maxRecDepth 20000 in
theorem gX1_taken_X1_look : GoodIn wsX1_taken (wsV RX1 87 RX1 yX1_look wsX1_look) := goodIn_app (goodIn_of _ (by decide +kernel)) ggX1_taken_X1_look
set_option maxRecDepth 20000 in
theorem ggX1_taken_X1_words : GoodIn wsX1_taken wsX1_words := goodIn_r _ [26, 15, 11, 13, 27, 28, 29, 30, 31, 32, 33, 34, 35, 36, 37, 38, 39, 40, 41, 42, 43, 44, 45, 46, 47, 48, 49] (by decide +kernel) (by decide +kernel)
set_option maxRecDepth 20000 in
theorem gX1_taken_X1_words : GoodIn wsX1_taken (wsV RX1 90 RX1 yX1_words wsX1_words) := goodIn_app (goodIn_of _ (by decide +kernel)) ggX1_taken_X1_words
theorem dX1_taken_0 : decode cX1_taken 0 = .ok (.aload_n 0, 1) := by decide +kernel
theorem dX1_taken_1 : decode cX1_taken 1 = .ok (.invokevirtual 87, 3) := by decide +kernel
theorem dX1_taken_4 : decode cX1_taken 4 = .ok (.iconst 0, 1) := by decide +kernel
theorem dX1_taken_5 : decode cX1_taken 5 = .ok (.istore_n 1, 1) := by decide +kernel
theorem dX1_taken_6 : decode cX1_taken 6 = .ok (.iconst 0, 1) := by decide +kernel
theorem dX1_taken_7 : decode cX1_taken 7 = .ok (.istore_n 2, 1) := by decide +kernel
theorem dX1_taken_8 : decode cX1_taken 8 = .ok (.iload_n 2, 1) := by decide +kernel
theorem dX1_taken_9 : decode cX1_taken 9 = .ok (.aload_n 0, 1) := by decide +kernel
theorem dX1_taken_10 : decode cX1_taken 10 = .ok (.getfield 80, 3) := by decide +kernel
theorem dX1_taken_13 : decode cX1_taken 13 = .ok (.if_icmp .ge 22, 3) := by decide +kernel
theorem dX1_taken_16 : decode cX1_taken 16 = .ok (.iload_n 1, 1) := by decide +kernel
theorem dX1_taken_17 : decode cX1_taken 17 = .ok (.aload_n 0, 1) := by decide +kernel
theorem dX1_taken_18 : decode cX1_taken 18 = .ok (.aload_n 0, 1) := by decide +kernel
theorem dX1_taken_19 : decode cX1_taken 19 = .ok (.getfield 66, 3) := by decide +kernel
theorem dX1_taken_22 : decode cX1_taken 22 = .ok (.iload_n 2, 1) := by decide +kernel
theorem dX1_taken_23 : decode cX1_taken 23 = .ok (.iaload, 1) := by decide +kernel
theorem dX1_taken_24 : decode cX1_taken 24 = .ok (.invokevirtual 90, 3) := by decide +kernel
theorem dX1_taken_27 : decode cX1_taken 27 = .ok (.iadd, 1) := by decide +kernel
theorem dX1_taken_28 : decode cX1_taken 28 = .ok (.istore_n 1, 1) := by decide +kernel
theorem dX1_taken_29 : decode cX1_taken 29 = .ok (.iinc 2 1, 3) := by decide +kernel
theorem dX1_taken_32 : decode cX1_taken 32 = .ok (.goto (-24), 3) := by decide +kernel
theorem dX1_taken_35 : decode cX1_taken 35 = .ok (.iload_n 1, 1) := by decide +kernel
theorem dX1_taken_36 : decode cX1_taken 36 = .ok (.ireturn, 1) := by decide +kernel
set_option maxRecDepth 20000 in
theorem ggX1_make_X1_taken : GoodIn wsX1_make wsX1_taken := goodIn_r _ [13, 14, 15, 16, 17, 18, 12, 19, 2, 20, 21, 6, 22, 7, 23, 1, 24, 25, 26, 27, 28, 29, 30, 31, 32, 33, 34, 8, 3, 35, 36, 37, 38, 39, 40, 41, 42, 43, 44, 45, 46, 47, 48, 49, 50, 51, 52, 53, 54, 55] (by decide +kernel) (by decide +kernel)
set_option maxRecDepth 20000 in
theorem gX1_make_X1_taken : GoodIn wsX1_make (wsV RX1 94 RX1 yX1_taken wsX1_taken) := goodIn_app (goodIn_of _ (by decide +kernel)) ggX1_make_X1_taken
set_option maxRecDepth 20000 in
theorem ggX1_make_X1_words : GoodIn wsX1_make wsX1_words := goodIn_r _ [34, 1, 6, 7, 8, 3, 35, 36, 37, 38, 39, 40, 41, 42, 43, 44, 45, 46, 47, 48, 49, 50, 51, 52, 53, 54, 55] (by decide +kernel) (by decide +kernel)
set_option maxRecDepth 20000 in
theorem gX1_make_X1_words : GoodIn wsX1_make (wsV RX1 90 RX1 yX1_words wsX1_words) := goodIn_app (goodIn_of _ (by decide +kernel)) ggX1_make_X1_words
theorem dX1_make_0 : decode cX1_make 0 = .ok (.aload_n 0, 1) := by decide +kernel
theorem dX1_make_1 : decode cX1_make 1 = .ok (.getfield 17, 3) := by decide +kernel
theorem dX1_make_4 : decode cX1_make 4 = .ok (.aload_n 0, 1) := by decide +kernel
theorem dX1_make_5 : decode cX1_make 5 = .ok (.getfield 13, 3) := by decide +kernel
theorem dX1_make_8 : decode cX1_make 8 = .ok (.iload_n 1, 1) := by decide +kernel
theorem dX1_make_9 : decode cX1_make 9 = .ok (.iastore, 1) := by decide +kernel
theorem dX1_make_10 : decode cX1_make 10 = .ok (.aload_n 0, 1) := by decide +kernel
theorem dX1_make_11 : decode cX1_make 11 = .ok (.getfield 44, 3) := by decide +kernel
theorem dX1_make_14 : decode cX1_make 14 = .ok (.aload_n 0, 1) := by decide +kernel
theorem dX1_make_15 : decode cX1_make 15 = .ok (.getfield 13, 3) := by decide +kernel
theorem dX1_make_18 : decode cX1_make 18 = .ok (.iload_n 2, 1) := by decide +kernel
theorem dX1_make_19 : decode cX1_make 19 = .ok (.iastore, 1) := by decide +kernel
theorem dX1_make_20 : decode cX1_make 20 = .ok (.aload_n 0, 1) := by decide +kernel
theorem dX1_make_21 : decode cX1_make 21 = .ok (.getfield 47, 3) := by decide +kernel
theorem dX1_make_24 : decode cX1_make 24 = .ok (.aload_n 0, 1) := by decide +kernel
theorem dX1_make_25 : decode cX1_make 25 = .ok (.getfield 13, 3) := by decide +kernel
theorem dX1_make_28 : decode cX1_make 28 = .ok (.iload_n 3, 1) := by decide +kernel
theorem dX1_make_29 : decode cX1_make 29 = .ok (.iastore, 1) := by decide +kernel
theorem dX1_make_30 : decode cX1_make 30 = .ok (.aload_n 0, 1) := by decide +kernel
theorem dX1_make_31 : decode cX1_make 31 = .ok (.invokevirtual 94, 3) := by decide +kernel
theorem dX1_make_34 : decode cX1_make 34 = .ok (.aload_n 0, 1) := by decide +kernel
theorem dX1_make_35 : decode cX1_make 35 = .ok (.aload_n 0, 1) := by decide +kernel
theorem dX1_make_36 : decode cX1_make 36 = .ok (.getfield 13, 3) := by decide +kernel
theorem dX1_make_39 : decode cX1_make 39 = .ok (.invokevirtual 90, 3) := by decide +kernel
theorem dX1_make_42 : decode cX1_make 42 = .ok (.iadd, 1) := by decide +kernel
theorem dX1_make_43 : decode cX1_make 43 = .ok (.aload_n 0, 1) := by decide +kernel
theorem dX1_make_44 : decode cX1_make 44 = .ok (.getfield 70, 3) := by decide +kernel
theorem dX1_make_47 : decode cX1_make 47 = .ok (.if_icmp .le 35, 3) := by decide +kernel
theorem dX1_make_50 : decode cX1_make 50 = .ok (.aload_n 0, 1) := by decide +kernel
theorem dX1_make_51 : decode cX1_make 51 = .ok (.getfield 20, 3) := by decide +kernel
theorem dX1_make_54 : decode cX1_make 54 = .ok (.aload_n 0, 1) := by decide +kernel
theorem dX1_make_55 : decode cX1_make 55 = .ok (.getfield 13, 3) := by decide +kernel
theorem dX1_make_58 : decode cX1_make 58 = .ok (.iconst 0, 1) := by decide +kernel
theorem dX1_make_59 : decode cX1_make 59 = .ok (.iastore, 1) := by decide +kernel
theorem dX1_make_60 : decode cX1_make 60 = .ok (.aload_n 0, 1) := by decide +kernel
theorem dX1_make_61 : decode cX1_make 61 = .ok (.getfield 23, 3) := by decide +kernel
theorem dX1_make_64 : decode cX1_make 64 = .ok (.aload_n 0, 1) := by decide +kernel
theorem dX1_make_65 : decode cX1_make 65 = .ok (.getfield 13, 3) := by decide +kernel
theorem dX1_make_68 : decode cX1_make 68 = .ok (.iconst 0, 1) := by decide +kernel
theorem dX1_make_69 : decode cX1_make 69 = .ok (.iastore, 1) := by decide +kernel
theorem dX1_make_70 : decode cX1_make 70 = .ok (.aload_n 0, 1) := by decide +kernel
theorem dX1_make_71 : decode cX1_make 71 = .ok (.getfield 26, 3) := by decide +kernel
theorem dX1_make_74 : decode cX1_make 74 = .ok (.aload_n 0, 1) := by decide +kernel
theorem dX1_make_75 : decode cX1_make 75 = .ok (.getfield 13, 3) := by decide +kernel
theorem dX1_make_78 : decode cX1_make 78 = .ok (.iconst 0, 1) := by decide +kernel
theorem dX1_make_79 : decode cX1_make 79 = .ok (.iastore, 1) := by decide +kernel
theorem dX1_make_80 : decode cX1_make 80 = .ok (.iconst 0, 1) := by decide +kernel
theorem dX1_make_81 : decode cX1_make 81 = .ok (.ireturn, 1) := by decide +kernel
theorem dX1_make_82 : decode cX1_make 82 = .ok (.aload_n 0, 1) := by decide +kernel
theorem dX1_make_83 : decode cX1_make 83 = .ok (.dup, 1) := by decide +kernel
theorem dX1_make_84 : decode cX1_make 84 = .ok (.getfield 13, 3) := by decide +kernel
theorem dX1_make_87 : decode cX1_make 87 = .ok (.iconst 1, 1) := by decide +kernel
theorem dX1_make_88 : decode cX1_make 88 = .ok (.iadd, 1) := by decide +kernel
theorem dX1_make_89 : decode cX1_make 89 = .ok (.putfield 13, 3) := by decide +kernel
theorem dX1_make_92 : decode cX1_make 92 = .ok (.aload_n 0, 1) := by decide +kernel
theorem dX1_make_93 : decode cX1_make 93 = .ok (.getfield 13, 3) := by decide +kernel
theorem dX1_make_96 : decode cX1_make 96 = .ok (.iconst 1, 1) := by decide +kernel
theorem dX1_make_97 : decode cX1_make 97 = .ok (.isub, 1) := by decide +kernel
theorem dX1_make_98 : decode cX1_make 98 = .ok (.ireturn, 1) := by decide +kernel
set_option maxRecDepth 20000 in
theorem ggX1_collect_X1_taken : GoodIn wsX1_collect wsX1_taken := goodIn_r _ [6, 7, 8, 9, 10, 11, 5, 12, 13, 14, 15, 16, 17, 18, 19, 20, 21, 22, 23, 24, 25, 26, 27, 28, 29, 30, 31, 32, 33, 34, 35, 36, 37, 38, 39, 40, 41, 42, 43, 44, 45, 46, 47, 48, 49, 50, 51, 52, 53, 54] (by decide +kernel) (by decide +kernel)
set_option maxRecDepth 20000 in
theorem gX1_collect_X1_taken : GoodIn wsX1_collect (wsV RX1 94 RX1 yX1_taken wsX1_taken) := goodIn_app (goodIn_of _ (by decide +kernel)) ggX1_collect_X1_taken
theorem dX1_collect_0 : decode cX1_collect 0 = .ok (.aload_n 0, 1) := by decide +kernel
theorem dX1_collect_1 : decode cX1_collect 1 = .ok (.iconst 0, 1) := by decide +kernel
theorem dX1_collect_2 : decode cX1_collect 2 = .ok (.putfield 73, 3) := by decide +kernel
theorem dX1_collect_5 : decode cX1_collect 5 = .ok (.aload_n 0, 1) := by decide +kernel
theorem dX1_collect_6 : decode cX1_collect 6 = .ok (.invokevirtual 94, 3) := by decide +kernel
theorem dX1_collect_9 : decode cX1_collect 9 = .ok (.ireturn, 1) := by decide +kernel
theorem dX1_stress_0 : decode cX1_stress 0 = .ok (.aload_n 0, 1) := by decide +kernel
theorem dX1_stress_1 : decode cX1_stress 1 = .ok (.iload_n 1, 1) := by decide +kernel
theorem dX1_stress_2 : decode cX1_stress 2 = .ok (.ifCond .lt 7, 3) := by decide +kernel
theorem dX1_stress_5 : decode cX1_stress 5 = .ok (.iconst 0, 1) := by decide +kernel
theorem dX1_stress_6 : decode cX1_stress 6 = .ok (.goto 4, 3) := by decide +kernel
theorem dX1_stress_9 : decode cX1_stress 9 = .ok (.iconst 1, 1) := by decide +kernel
theorem dX1_stress_10 : decode cX1_stress 10 = .ok (.putfield 73, 3) := by decide +kernel
theorem dX1_stress_13 : decode cX1_stress 13 = .ok (.return_, 1) := by decide +kernel
set_option maxRecDepth 20000 in
theorem ggX1_take_X1_isRoot : GoodIn wsX1_take wsX1_isRoot := goodIn_r _ [10, 11, 12, 9, 13] (by decide +kernel) (by decide +kernel)
set_option maxRecDepth 20000 in
theorem gX1_take_X1_isRoot : GoodIn wsX1_take (va_wsS RX1 98 yX1_isRoot wsX1_isRoot) := goodIn_app (goodIn_of _ (by decide +kernel)) ggX1_take_X1_isRoot
set_option maxRecDepth 20000 in
theorem ggX1_take_X1_in : GoodIn wsX1_take wsX1_in := goodIn_r _ [13] (by decide +kernel) (by decide +kernel)
set_option maxRecDepth 20000 in
theorem gX1_take_X1_in : GoodIn wsX1_take (va_wsS RX1 76 yX1_in wsX1_in) := goodIn_app (goodIn_of _ (by decide +kernel)) ggX1_take_X1_in
set_option maxRecDepth 20000 in
theorem ggX1_take_X1_says : GoodIn wsX1_take wsX1_says := goodIn_r _ [17, 5, 50, 51, 52, 53, 54, 55, 56, 57, 58, 59, 60, 61, 62, 63, 64, 65, 66, 67, 68, 69, 70] (by decide +kernel) (by decide +kernel)
set_option maxRecDepth 20000 in
theorem gX1_take_X1_says : GoodIn wsX1_take (wsV RX1 102 RX1 yX1_says wsX1_says) := goodIn_app (goodIn_of _ (by decide +kernel)) ggX1_take_X1_says
set_option maxRecDepth 20000 in
theorem ggX1_take_X1_make : GoodIn wsX1_take wsX1_make := goodIn_r _ [21, 22, 2, 23, 24, 25, 1, 3, 4, 26, 27, 28, 9, 29, 30, 31, 32, 33, 34, 35, 36, 6, 37, 38, 39, 40, 41, 42, 43, 44, 45, 46, 47, 48, 49, 50, 51, 52, 53, 54, 55, 56, 57, 58, 59, 60, 61, 62, 63, 64, 65, 66, 67, 68, 69, 70] (by decide +kernel) (by decide +kernel)
set_option maxRecDepth 20000 in
theorem gX1_take_X1_make : GoodIn wsX1_take (wsV RX1 106 RX1 yX1_make wsX1_make) := goodIn_app (goodIn_of _ (by decide +kernel)) ggX1_take_X1_make
theorem dX1_take_0 : decode cX1_take 0 = .ok (.aload_n 0, 1) := by decide +kernel
theorem dX1_take_1 : decode cX1_take 1 = .ok (.iload_n 1, 1) := by decide +kernel
theorem dX1_take_2 : decode cX1_take 2 = .ok (.invokestatic 98, 3) := by decide +kernel
theorem dX1_take_5 : decode cX1_take 5 = .ok (.ifCond .eq 38, 3) := by decide +kernel
theorem dX1_take_8 : decode cX1_take 8 = .ok (.iload_n 2, 1) := by decide +kernel
theorem dX1_take_9 : decode cX1_take 9 = .ok (.iconst 0, 1) := by decide +kernel
theorem dX1_take_10 : decode cX1_take 10 = .ok (.bipush 8, 2) := by decide +kernel
theorem dX1_take_12 : decode cX1_take 12 = .ok (.invokestatic 76, 3) := by decide +kernel
theorem dX1_take_15 : decode cX1_take 15 = .ok (.ifCond .eq 28, 3) := by decide +kernel
theorem dX1_take_18 : decode cX1_take 18 = .ok (.iload_n 3, 1) := by decide +kernel
theorem dX1_take_19 : decode cX1_take 19 = .ok (.iconst 0, 1) := by decide +kernel
theorem dX1_take_20 : decode cX1_take 20 = .ok (.bipush 8, 2) := by decide +kernel
theorem dX1_take_22 : decode cX1_take 22 = .ok (.invokestatic 76, 3) := by decide +kernel
theorem dX1_take_25 : decode cX1_take 25 = .ok (.ifCond .eq 18, 3) := by decide +kernel
theorem dX1_take_28 : decode cX1_take 28 = .ok (.iload 4, 2) := by decide +kernel
theorem dX1_take_30 : decode cX1_take 30 = .ok (.iconst 0, 1) := by decide +kernel
theorem dX1_take_31 : decode cX1_take 31 = .ok (.bipush 16, 2) := by decide +kernel
theorem dX1_take_33 : decode cX1_take 33 = .ok (.invokestatic 76, 3) := by decide +kernel
theorem dX1_take_36 : decode cX1_take 36 = .ok (.ifCond .eq 7, 3) := by decide +kernel
theorem dX1_take_39 : decode cX1_take 39 = .ok (.iconst 1, 1) := by decide +kernel
theorem dX1_take_40 : decode cX1_take 40 = .ok (.goto 4, 3) := by decide +kernel
theorem dX1_take_43 : decode cX1_take 43 = .ok (.iconst 0, 1) := by decide +kernel
theorem dX1_take_44 : decode cX1_take 44 = .ok (.invokevirtual 102, 3) := by decide +kernel
theorem dX1_take_47 : decode cX1_take 47 = .ok (.ifCond .ne 4, 3) := by decide +kernel
theorem dX1_take_50 : decode cX1_take 50 = .ok (.return_, 1) := by decide +kernel
theorem dX1_take_51 : decode cX1_take 51 = .ok (.aload_n 0, 1) := by decide +kernel
theorem dX1_take_52 : decode cX1_take 52 = .ok (.getfield 20, 3) := by decide +kernel
theorem dX1_take_55 : decode cX1_take 55 = .ok (.aload_n 0, 1) := by decide +kernel
theorem dX1_take_56 : decode cX1_take 56 = .ok (.getfield 13, 3) := by decide +kernel
theorem dX1_take_59 : decode cX1_take 59 = .ok (.iload_n 2, 1) := by decide +kernel
theorem dX1_take_60 : decode cX1_take 60 = .ok (.iastore, 1) := by decide +kernel
theorem dX1_take_61 : decode cX1_take 61 = .ok (.aload_n 0, 1) := by decide +kernel
theorem dX1_take_62 : decode cX1_take 62 = .ok (.getfield 23, 3) := by decide +kernel
theorem dX1_take_65 : decode cX1_take 65 = .ok (.aload_n 0, 1) := by decide +kernel
theorem dX1_take_66 : decode cX1_take 66 = .ok (.getfield 13, 3) := by decide +kernel
theorem dX1_take_69 : decode cX1_take 69 = .ok (.iload_n 3, 1) := by decide +kernel
theorem dX1_take_70 : decode cX1_take 70 = .ok (.iastore, 1) := by decide +kernel
theorem dX1_take_71 : decode cX1_take 71 = .ok (.aload_n 0, 1) := by decide +kernel
theorem dX1_take_72 : decode cX1_take 72 = .ok (.getfield 26, 3) := by decide +kernel
theorem dX1_take_75 : decode cX1_take 75 = .ok (.aload_n 0, 1) := by decide +kernel
theorem dX1_take_76 : decode cX1_take 76 = .ok (.getfield 13, 3) := by decide +kernel
theorem dX1_take_79 : decode cX1_take 79 = .ok (.iload 4, 2) := by decide +kernel
theorem dX1_take_81 : decode cX1_take 81 = .ok (.iastore, 1) := by decide +kernel
theorem dX1_take_82 : decode cX1_take 82 = .ok (.aload_n 0, 1) := by decide +kernel
theorem dX1_take_83 : decode cX1_take 83 = .ok (.iconst 1, 1) := by decide +kernel
theorem dX1_take_84 : decode cX1_take 84 = .ok (.iconst 0, 1) := by decide +kernel
theorem dX1_take_85 : decode cX1_take 85 = .ok (.iconst 0, 1) := by decide +kernel
theorem dX1_take_86 : decode cX1_take 86 = .ok (.invokevirtual 106, 3) := by decide +kernel
theorem dX1_take_89 : decode cX1_take 89 = .ok (.istore 5, 2) := by decide +kernel
theorem dX1_take_91 : decode cX1_take 91 = .ok (.iload 5, 2) := by decide +kernel
theorem dX1_take_93 : decode cX1_take 93 = .ok (.ifCond .ne 11, 3) := by decide +kernel
theorem dX1_take_96 : decode cX1_take 96 = .ok (.aload_n 0, 1) := by decide +kernel
theorem dX1_take_97 : decode cX1_take 97 = .ok (.iconst 2, 1) := by decide +kernel
theorem dX1_take_98 : decode cX1_take 98 = .ok (.putfield 73, 3) := by decide +kernel
theorem dX1_take_101 : decode cX1_take 101 = .ok (.goto 11, 3) := by decide +kernel
theorem dX1_take_104 : decode cX1_take 104 = .ok (.aload_n 0, 1) := by decide +kernel
theorem dX1_take_105 : decode cX1_take 105 = .ok (.getfield 9, 3) := by decide +kernel
theorem dX1_take_108 : decode cX1_take 108 = .ok (.iload_n 1, 1) := by decide +kernel
theorem dX1_take_109 : decode cX1_take 109 = .ok (.iload 5, 2) := by decide +kernel
theorem dX1_take_111 : decode cX1_take 111 = .ok (.iastore, 1) := by decide +kernel
theorem dX1_take_112 : decode cX1_take 112 = .ok (.return_, 1) := by decide +kernel
set_option maxRecDepth 20000 in
theorem ggX1_copy_X1_isRoot : GoodIn wsX1_copy wsX1_isRoot := goodIn_r _ [5, 6, 7, 4, 8] (by decide +kernel) (by decide +kernel)
set_option maxRecDepth 20000 in
theorem gX1_copy_X1_isRoot : GoodIn wsX1_copy (va_wsS RX1 98 yX1_isRoot wsX1_isRoot) := goodIn_app (goodIn_of _ (by decide +kernel)) ggX1_copy_X1_isRoot
set_option maxRecDepth 20000 in
theorem ggX1_copy_X1_says : GoodIn wsX1_copy wsX1_says := goodIn_r _ [12, 13, 14, 15, 16, 17, 18, 19, 20, 21, 22, 23, 24, 25, 26, 27, 28, 29, 30, 31, 32, 33, 34] (by decide +kernel) (by decide +kernel)
set_option maxRecDepth 20000 in
theorem gX1_copy_X1_says : GoodIn wsX1_copy (wsV RX1 102 RX1 yX1_says wsX1_says) := goodIn_app (goodIn_of _ (by decide +kernel)) ggX1_copy_X1_says
theorem dX1_copy_0 : decode cX1_copy 0 = .ok (.aload_n 0, 1) := by decide +kernel
theorem dX1_copy_1 : decode cX1_copy 1 = .ok (.iload_n 1, 1) := by decide +kernel
theorem dX1_copy_2 : decode cX1_copy 2 = .ok (.invokestatic 98, 3) := by decide +kernel
theorem dX1_copy_5 : decode cX1_copy 5 = .ok (.ifCond .eq 14, 3) := by decide +kernel
theorem dX1_copy_8 : decode cX1_copy 8 = .ok (.iload_n 2, 1) := by decide +kernel
theorem dX1_copy_9 : decode cX1_copy 9 = .ok (.invokestatic 98, 3) := by decide +kernel
theorem dX1_copy_12 : decode cX1_copy 12 = .ok (.ifCond .eq 7, 3) := by decide +kernel
theorem dX1_copy_15 : decode cX1_copy 15 = .ok (.iconst 1, 1) := by decide +kernel
theorem dX1_copy_16 : decode cX1_copy 16 = .ok (.goto 4, 3) := by decide +kernel
theorem dX1_copy_19 : decode cX1_copy 19 = .ok (.iconst 0, 1) := by decide +kernel
theorem dX1_copy_20 : decode cX1_copy 20 = .ok (.invokevirtual 102, 3) := by decide +kernel
theorem dX1_copy_23 : decode cX1_copy 23 = .ok (.ifCond .eq 15, 3) := by decide +kernel
theorem dX1_copy_26 : decode cX1_copy 26 = .ok (.aload_n 0, 1) := by decide +kernel
theorem dX1_copy_27 : decode cX1_copy 27 = .ok (.getfield 9, 3) := by decide +kernel
theorem dX1_copy_30 : decode cX1_copy 30 = .ok (.iload_n 1, 1) := by decide +kernel
theorem dX1_copy_31 : decode cX1_copy 31 = .ok (.aload_n 0, 1) := by decide +kernel
theorem dX1_copy_32 : decode cX1_copy 32 = .ok (.getfield 9, 3) := by decide +kernel
theorem dX1_copy_35 : decode cX1_copy 35 = .ok (.iload_n 2, 1) := by decide +kernel
theorem dX1_copy_36 : decode cX1_copy 36 = .ok (.iaload, 1) := by decide +kernel
theorem dX1_copy_37 : decode cX1_copy 37 = .ok (.iastore, 1) := by decide +kernel
theorem dX1_copy_38 : decode cX1_copy 38 = .ok (.return_, 1) := by decide +kernel
set_option maxRecDepth 20000 in
theorem ggX1_drop_X1_isRoot : GoodIn wsX1_drop wsX1_isRoot := goodIn_r _ [5, 6, 7, 4, 8] (by decide +kernel) (by decide +kernel)
set_option maxRecDepth 20000 in
theorem gX1_drop_X1_isRoot : GoodIn wsX1_drop (va_wsS RX1 98 yX1_isRoot wsX1_isRoot) := goodIn_app (goodIn_of _ (by decide +kernel)) ggX1_drop_X1_isRoot
set_option maxRecDepth 20000 in
theorem ggX1_drop_X1_says : GoodIn wsX1_drop wsX1_says := goodIn_r _ [12, 13, 14, 15, 16, 17, 18, 19, 20, 21, 22, 23, 24, 25, 26, 27, 28, 29, 30, 31, 32, 33, 34] (by decide +kernel) (by decide +kernel)
set_option maxRecDepth 20000 in
theorem gX1_drop_X1_says : GoodIn wsX1_drop (wsV RX1 102 RX1 yX1_says wsX1_says) := goodIn_app (goodIn_of _ (by decide +kernel)) ggX1_drop_X1_says
theorem dX1_drop_0 : decode cX1_drop 0 = .ok (.aload_n 0, 1) := by decide +kernel
theorem dX1_drop_1 : decode cX1_drop 1 = .ok (.iload_n 1, 1) := by decide +kernel
theorem dX1_drop_2 : decode cX1_drop 2 = .ok (.invokestatic 98, 3) := by decide +kernel
theorem dX1_drop_5 : decode cX1_drop 5 = .ok (.invokevirtual 102, 3) := by decide +kernel
theorem dX1_drop_8 : decode cX1_drop 8 = .ok (.ifCond .eq 10, 3) := by decide +kernel
theorem dX1_drop_11 : decode cX1_drop 11 = .ok (.aload_n 0, 1) := by decide +kernel
theorem dX1_drop_12 : decode cX1_drop 12 = .ok (.getfield 9, 3) := by decide +kernel
theorem dX1_drop_15 : decode cX1_drop 15 = .ok (.iload_n 1, 1) := by decide +kernel
theorem dX1_drop_16 : decode cX1_drop 16 = .ok (.iconst 0, 1) := by decide +kernel
theorem dX1_drop_17 : decode cX1_drop 17 = .ok (.iastore, 1) := by decide +kernel
theorem dX1_drop_18 : decode cX1_drop 18 = .ok (.return_, 1) := by decide +kernel
set_option maxRecDepth 20000 in
theorem ggX1_kind_X1_isRoot : GoodIn wsX1_kind wsX1_isRoot := goodIn_r _ [6, 7, 8, 5, 9] (by decide +kernel) (by decide +kernel)
set_option maxRecDepth 20000 in
theorem gX1_kind_X1_isRoot : GoodIn wsX1_kind (va_wsS RX1 98 yX1_isRoot wsX1_isRoot) := goodIn_app (goodIn_of _ (by decide +kernel)) ggX1_kind_X1_isRoot
set_option maxRecDepth 20000 in
theorem ggX1_kind_X1_says : GoodIn wsX1_kind wsX1_says := goodIn_r _ [13, 14, 15, 16, 17, 18, 19, 20, 21, 22, 23, 24, 25, 26, 27, 28, 29, 30, 31, 32, 33, 34, 35] (by decide +kernel) (by decide +kernel)
set_option maxRecDepth 20000 in
theorem gX1_kind_X1_says : GoodIn wsX1_kind (wsV RX1 102 RX1 yX1_says wsX1_says) := goodIn_app (goodIn_of _ (by decide +kernel)) ggX1_kind_X1_says
theorem dX1_kind_0 : decode cX1_kind 0 = .ok (.aload_n 0, 1) := by decide +kernel
theorem dX1_kind_1 : decode cX1_kind 1 = .ok (.iload_n 1, 1) := by decide +kernel
theorem dX1_kind_2 : decode cX1_kind 2 = .ok (.invokestatic 98, 3) := by decide +kernel
theorem dX1_kind_5 : decode cX1_kind 5 = .ok (.invokevirtual 102, 3) := by decide +kernel
theorem dX1_kind_8 : decode cX1_kind 8 = .ok (.ifCond .eq 17, 3) := by decide +kernel
theorem dX1_kind_11 : decode cX1_kind 11 = .ok (.aload_n 0, 1) := by decide +kernel
theorem dX1_kind_12 : decode cX1_kind 12 = .ok (.getfield 17, 3) := by decide +kernel
theorem dX1_kind_15 : decode cX1_kind 15 = .ok (.aload_n 0, 1) := by decide +kernel
theorem dX1_kind_16 : decode cX1_kind 16 = .ok (.getfield 9, 3) := by decide +kernel
theorem dX1_kind_19 : decode cX1_kind 19 = .ok (.iload_n 1, 1) := by decide +kernel
theorem dX1_kind_20 : decode cX1_kind 20 = .ok (.iaload, 1) := by decide +kernel
theorem dX1_kind_21 : decode cX1_kind 21 = .ok (.iaload, 1) := by decide +kernel
theorem dX1_kind_22 : decode cX1_kind 22 = .ok (.goto 4, 3) := by decide +kernel
theorem dX1_kind_25 : decode cX1_kind 25 = .ok (.iconst 0, 1) := by decide +kernel
theorem dX1_kind_26 : decode cX1_kind 26 = .ok (.ireturn, 1) := by decide +kernel
set_option maxRecDepth 20000 in
theorem ggX1_same_X1_isRoot : GoodIn wsX1_same wsX1_isRoot := goodIn_r _ [5, 6, 7, 4, 8] (by decide +kernel) (by decide +kernel)
set_option maxRecDepth 20000 in
theorem gX1_same_X1_isRoot : GoodIn wsX1_same (va_wsS RX1 98 yX1_isRoot wsX1_isRoot) := goodIn_app (goodIn_of _ (by decide +kernel)) ggX1_same_X1_isRoot
set_option maxRecDepth 20000 in
theorem ggX1_same_X1_says : GoodIn wsX1_same wsX1_says := goodIn_r _ [12, 13, 14, 15, 16, 17, 18, 19, 20, 21, 22, 23, 24, 25, 26, 27, 28, 29, 30, 31, 32, 33, 34] (by decide +kernel) (by decide +kernel)
set_option maxRecDepth 20000 in
theorem gX1_same_X1_says : GoodIn wsX1_same (wsV RX1 102 RX1 yX1_says wsX1_says) := goodIn_app (goodIn_of _ (by decide +kernel)) ggX1_same_X1_says
theorem dX1_same_0 : decode cX1_same 0 = .ok (.aload_n 0, 1) := by decide +kernel
theorem dX1_same_1 : decode cX1_same 1 = .ok (.iload_n 1, 1) := by decide +kernel
theorem dX1_same_2 : decode cX1_same 2 = .ok (.invokestatic 98, 3) := by decide +kernel
theorem dX1_same_5 : decode cX1_same 5 = .ok (.ifCond .eq 14, 3) := by decide +kernel
theorem dX1_same_8 : decode cX1_same 8 = .ok (.iload_n 2, 1) := by decide +kernel
theorem dX1_same_9 : decode cX1_same 9 = .ok (.invokestatic 98, 3) := by decide +kernel
theorem dX1_same_12 : decode cX1_same 12 = .ok (.ifCond .eq 7, 3) := by decide +kernel
theorem dX1_same_15 : decode cX1_same 15 = .ok (.iconst 1, 1) := by decide +kernel
theorem dX1_same_16 : decode cX1_same 16 = .ok (.goto 4, 3) := by decide +kernel
theorem dX1_same_19 : decode cX1_same 19 = .ok (.iconst 0, 1) := by decide +kernel
theorem dX1_same_20 : decode cX1_same 20 = .ok (.invokevirtual 102, 3) := by decide +kernel
theorem dX1_same_23 : decode cX1_same 23 = .ok (.ifCond .eq 22, 3) := by decide +kernel
theorem dX1_same_26 : decode cX1_same 26 = .ok (.aload_n 0, 1) := by decide +kernel
theorem dX1_same_27 : decode cX1_same 27 = .ok (.getfield 9, 3) := by decide +kernel
theorem dX1_same_30 : decode cX1_same 30 = .ok (.iload_n 1, 1) := by decide +kernel
theorem dX1_same_31 : decode cX1_same 31 = .ok (.iaload, 1) := by decide +kernel
theorem dX1_same_32 : decode cX1_same 32 = .ok (.aload_n 0, 1) := by decide +kernel
theorem dX1_same_33 : decode cX1_same 33 = .ok (.getfield 9, 3) := by decide +kernel
theorem dX1_same_36 : decode cX1_same 36 = .ok (.iload_n 2, 1) := by decide +kernel
theorem dX1_same_37 : decode cX1_same 37 = .ok (.iaload, 1) := by decide +kernel
theorem dX1_same_38 : decode cX1_same 38 = .ok (.if_icmp .ne 7, 3) := by decide +kernel
theorem dX1_same_41 : decode cX1_same 41 = .ok (.iconst 1, 1) := by decide +kernel
theorem dX1_same_42 : decode cX1_same 42 = .ok (.goto 4, 3) := by decide +kernel
theorem dX1_same_45 : decode cX1_same 45 = .ok (.iconst 0, 1) := by decide +kernel
theorem dX1_same_46 : decode cX1_same 46 = .ok (.ireturn, 1) := by decide +kernel
set_option maxRecDepth 20000 in
theorem ggX1_isBlock_X1_isRoot : GoodIn wsX1_isBlock wsX1_isRoot := goodIn_r _ [6, 7, 8, 5, 9] (by decide +kernel) (by decide +kernel)
set_option maxRecDepth 20000 in
theorem gX1_isBlock_X1_isRoot : GoodIn wsX1_isBlock (va_wsS RX1 98 yX1_isRoot wsX1_isRoot) := goodIn_app (goodIn_of _ (by decide +kernel)) ggX1_isBlock_X1_isRoot
theorem dX1_isBlock_0 : decode cX1_isBlock 0 = .ok (.iload_n 1, 1) := by decide +kernel
theorem dX1_isBlock_1 : decode cX1_isBlock 1 = .ok (.invokestatic 98, 3) := by decide +kernel
theorem dX1_isBlock_4 : decode cX1_isBlock 4 = .ok (.ifCond .eq 22, 3) := by decide +kernel
theorem dX1_isBlock_7 : decode cX1_isBlock 7 = .ok (.aload_n 0, 1) := by decide +kernel
theorem dX1_isBlock_8 : decode cX1_isBlock 8 = .ok (.getfield 17, 3) := by decide +kernel
theorem dX1_isBlock_11 : decode cX1_isBlock 11 = .ok (.aload_n 0, 1) := by decide +kernel
theorem dX1_isBlock_12 : decode cX1_isBlock 12 = .ok (.getfield 9, 3) := by decide +kernel
theorem dX1_isBlock_15 : decode cX1_isBlock 15 = .ok (.iload_n 1, 1) := by decide +kernel
theorem dX1_isBlock_16 : decode cX1_isBlock 16 = .ok (.iaload, 1) := by decide +kernel
theorem dX1_isBlock_17 : decode cX1_isBlock 17 = .ok (.iaload, 1) := by decide +kernel
theorem dX1_isBlock_18 : decode cX1_isBlock 18 = .ok (.iconst 1, 1) := by decide +kernel
theorem dX1_isBlock_19 : decode cX1_isBlock 19 = .ok (.if_icmp .ne 7, 3) := by decide +kernel
theorem dX1_isBlock_22 : decode cX1_isBlock 22 = .ok (.iconst 1, 1) := by decide +kernel
theorem dX1_isBlock_23 : decode cX1_isBlock 23 = .ok (.goto 4, 3) := by decide +kernel
theorem dX1_isBlock_26 : decode cX1_isBlock 26 = .ok (.iconst 0, 1) := by decide +kernel
theorem dX1_isBlock_27 : decode cX1_isBlock 27 = .ok (.ireturn, 1) := by decide +kernel
set_option maxRecDepth 20000 in
theorem ggX1_hasLink_X1_isBlock : GoodIn wsX1_hasLink wsX1_isBlock := goodIn_r _ [7, 8, 2, 9, 10, 6, 11, 12, 13, 14, 15, 16, 17, 18, 19, 20, 21, 22, 23, 24, 25, 26, 27, 28, 29, 30, 31, 32, 33, 34, 35] (by decide +kernel) (by decide +kernel)
set_option maxRecDepth 20000 in
theorem gX1_hasLink_X1_isBlock : GoodIn wsX1_hasLink (wsV RX1 110 RX1 yX1_isBlock wsX1_isBlock) := goodIn_app (goodIn_of _ (by decide +kernel)) ggX1_hasLink_X1_isBlock
set_option maxRecDepth 20000 in
theorem ggX1_hasLink_X1_in : GoodIn wsX1_hasLink wsX1_in := goodIn_r _ [14] (by decide +kernel) (by decide +kernel)
set_option maxRecDepth 20000 in
theorem gX1_hasLink_X1_in : GoodIn wsX1_hasLink (va_wsS RX1 76 yX1_in wsX1_in) := goodIn_app (goodIn_of _ (by decide +kernel)) ggX1_hasLink_X1_in
theorem dX1_hasLink_0 : decode cX1_hasLink 0 = .ok (.aload_n 0, 1) := by decide +kernel
theorem dX1_hasLink_1 : decode cX1_hasLink 1 = .ok (.iload_n 1, 1) := by decide +kernel
theorem dX1_hasLink_2 : decode cX1_hasLink 2 = .ok (.invokevirtual 110, 3) := by decide +kernel
theorem dX1_hasLink_5 : decode cX1_hasLink 5 = .ok (.ifCond .eq 28, 3) := by decide +kernel
theorem dX1_hasLink_8 : decode cX1_hasLink 8 = .ok (.iload_n 2, 1) := by decide +kernel
theorem dX1_hasLink_9 : decode cX1_hasLink 9 = .ok (.iconst 0, 1) := by decide +kernel
theorem dX1_hasLink_10 : decode cX1_hasLink 10 = .ok (.aload_n 0, 1) := by decide +kernel
theorem dX1_hasLink_11 : decode cX1_hasLink 11 = .ok (.getfield 20, 3) := by decide +kernel
theorem dX1_hasLink_14 : decode cX1_hasLink 14 = .ok (.aload_n 0, 1) := by decide +kernel
theorem dX1_hasLink_15 : decode cX1_hasLink 15 = .ok (.getfield 9, 3) := by decide +kernel
theorem dX1_hasLink_18 : decode cX1_hasLink 18 = .ok (.iload_n 1, 1) := by decide +kernel
theorem dX1_hasLink_19 : decode cX1_hasLink 19 = .ok (.iaload, 1) := by decide +kernel
theorem dX1_hasLink_20 : decode cX1_hasLink 20 = .ok (.iaload, 1) := by decide +kernel
theorem dX1_hasLink_21 : decode cX1_hasLink 21 = .ok (.iconst 1, 1) := by decide +kernel
theorem dX1_hasLink_22 : decode cX1_hasLink 22 = .ok (.isub, 1) := by decide +kernel
theorem dX1_hasLink_23 : decode cX1_hasLink 23 = .ok (.invokestatic 76, 3) := by decide +kernel
theorem dX1_hasLink_26 : decode cX1_hasLink 26 = .ok (.ifCond .eq 7, 3) := by decide +kernel
theorem dX1_hasLink_29 : decode cX1_hasLink 29 = .ok (.iconst 1, 1) := by decide +kernel
theorem dX1_hasLink_30 : decode cX1_hasLink 30 = .ok (.goto 4, 3) := by decide +kernel
theorem dX1_hasLink_33 : decode cX1_hasLink 33 = .ok (.iconst 0, 1) := by decide +kernel
theorem dX1_hasLink_34 : decode cX1_hasLink 34 = .ok (.ireturn, 1) := by decide +kernel
set_option maxRecDepth 20000 in
theorem ggX1_hasValue_X1_isBlock : GoodIn wsX1_hasValue wsX1_isBlock := goodIn_r _ [7, 8, 2, 9, 10, 6, 11, 12, 13, 14, 15, 16, 17, 18, 19, 20, 21, 22, 23, 24, 25, 26, 27, 28, 29, 30, 31, 32, 33, 34, 35] (by decide +kernel) (by decide +kernel)
set_option maxRecDepth 20000 in
theorem gX1_hasValue_X1_isBlock : GoodIn wsX1_hasValue (wsV RX1 110 RX1 yX1_isBlock wsX1_isBlock) := goodIn_app (goodIn_of _ (by decide +kernel)) ggX1_hasValue_X1_isBlock
set_option maxRecDepth 20000 in
theorem ggX1_hasValue_X1_in : GoodIn wsX1_hasValue wsX1_in := goodIn_r _ [14] (by decide +kernel) (by decide +kernel)
set_option maxRecDepth 20000 in
theorem gX1_hasValue_X1_in : GoodIn wsX1_hasValue (va_wsS RX1 76 yX1_in wsX1_in) := goodIn_app (goodIn_of _ (by decide +kernel)) ggX1_hasValue_X1_in
theorem dX1_hasValue_0 : decode cX1_hasValue 0 = .ok (.aload_n 0, 1) := by decide +kernel
theorem dX1_hasValue_1 : decode cX1_hasValue 1 = .ok (.iload_n 1, 1) := by decide +kernel
theorem dX1_hasValue_2 : decode cX1_hasValue 2 = .ok (.invokevirtual 110, 3) := by decide +kernel
theorem dX1_hasValue_5 : decode cX1_hasValue 5 = .ok (.ifCond .eq 28, 3) := by decide +kernel
theorem dX1_hasValue_8 : decode cX1_hasValue 8 = .ok (.iload_n 2, 1) := by decide +kernel
theorem dX1_hasValue_9 : decode cX1_hasValue 9 = .ok (.iconst 0, 1) := by decide +kernel
theorem dX1_hasValue_10 : decode cX1_hasValue 10 = .ok (.aload_n 0, 1) := by decide +kernel
theorem dX1_hasValue_11 : decode cX1_hasValue 11 = .ok (.getfield 23, 3) := by decide +kernel
theorem dX1_hasValue_14 : decode cX1_hasValue 14 = .ok (.aload_n 0, 1) := by decide +kernel
theorem dX1_hasValue_15 : decode cX1_hasValue 15 = .ok (.getfield 9, 3) := by decide +kernel
theorem dX1_hasValue_18 : decode cX1_hasValue 18 = .ok (.iload_n 1, 1) := by decide +kernel
theorem dX1_hasValue_19 : decode cX1_hasValue 19 = .ok (.iaload, 1) := by decide +kernel
theorem dX1_hasValue_20 : decode cX1_hasValue 20 = .ok (.iaload, 1) := by decide +kernel
theorem dX1_hasValue_21 : decode cX1_hasValue 21 = .ok (.iconst 1, 1) := by decide +kernel
theorem dX1_hasValue_22 : decode cX1_hasValue 22 = .ok (.isub, 1) := by decide +kernel
theorem dX1_hasValue_23 : decode cX1_hasValue 23 = .ok (.invokestatic 76, 3) := by decide +kernel
theorem dX1_hasValue_26 : decode cX1_hasValue 26 = .ok (.ifCond .eq 7, 3) := by decide +kernel
theorem dX1_hasValue_29 : decode cX1_hasValue 29 = .ok (.iconst 1, 1) := by decide +kernel
theorem dX1_hasValue_30 : decode cX1_hasValue 30 = .ok (.goto 4, 3) := by decide +kernel
theorem dX1_hasValue_33 : decode cX1_hasValue 33 = .ok (.iconst 0, 1) := by decide +kernel
theorem dX1_hasValue_34 : decode cX1_hasValue 34 = .ok (.ireturn, 1) := by decide +kernel
set_option maxRecDepth 20000 in
theorem ggX1_hasWord_X1_isBlock : GoodIn wsX1_hasWord wsX1_isBlock := goodIn_r _ [7, 8, 2, 9, 10, 6, 11, 12, 13, 14, 15, 16, 17, 18, 19, 20, 21, 22, 23, 24, 25, 26, 27, 28, 29, 30, 31, 32, 33, 34, 35] (by decide +kernel) (by decide +kernel)
set_option maxRecDepth 20000 in
theorem gX1_hasWord_X1_isBlock : GoodIn wsX1_hasWord (wsV RX1 110 RX1 yX1_isBlock wsX1_isBlock) := goodIn_app (goodIn_of _ (by decide +kernel)) ggX1_hasWord_X1_isBlock
set_option maxRecDepth 20000 in
theorem ggX1_hasWord_X1_in : GoodIn wsX1_hasWord wsX1_in := goodIn_r _ [14] (by decide +kernel) (by decide +kernel)
set_option maxRecDepth 20000 in
theorem gX1_hasWord_X1_in : GoodIn wsX1_hasWord (va_wsS RX1 76 yX1_in wsX1_in) := goodIn_app (goodIn_of _ (by decide +kernel)) ggX1_hasWord_X1_in
theorem dX1_hasWord_0 : decode cX1_hasWord 0 = .ok (.aload_n 0, 1) := by decide +kernel
theorem dX1_hasWord_1 : decode cX1_hasWord 1 = .ok (.iload_n 1, 1) := by decide +kernel
theorem dX1_hasWord_2 : decode cX1_hasWord 2 = .ok (.invokevirtual 110, 3) := by decide +kernel
theorem dX1_hasWord_5 : decode cX1_hasWord 5 = .ok (.ifCond .eq 28, 3) := by decide +kernel
theorem dX1_hasWord_8 : decode cX1_hasWord 8 = .ok (.iload_n 2, 1) := by decide +kernel
theorem dX1_hasWord_9 : decode cX1_hasWord 9 = .ok (.iconst 0, 1) := by decide +kernel
theorem dX1_hasWord_10 : decode cX1_hasWord 10 = .ok (.aload_n 0, 1) := by decide +kernel
theorem dX1_hasWord_11 : decode cX1_hasWord 11 = .ok (.getfield 26, 3) := by decide +kernel
theorem dX1_hasWord_14 : decode cX1_hasWord 14 = .ok (.aload_n 0, 1) := by decide +kernel
theorem dX1_hasWord_15 : decode cX1_hasWord 15 = .ok (.getfield 9, 3) := by decide +kernel
theorem dX1_hasWord_18 : decode cX1_hasWord 18 = .ok (.iload_n 1, 1) := by decide +kernel
theorem dX1_hasWord_19 : decode cX1_hasWord 19 = .ok (.iaload, 1) := by decide +kernel
theorem dX1_hasWord_20 : decode cX1_hasWord 20 = .ok (.iaload, 1) := by decide +kernel
theorem dX1_hasWord_21 : decode cX1_hasWord 21 = .ok (.iconst 1, 1) := by decide +kernel
theorem dX1_hasWord_22 : decode cX1_hasWord 22 = .ok (.isub, 1) := by decide +kernel
theorem dX1_hasWord_23 : decode cX1_hasWord 23 = .ok (.invokestatic 76, 3) := by decide +kernel
theorem dX1_hasWord_26 : decode cX1_hasWord 26 = .ok (.ifCond .eq 7, 3) := by decide +kernel
theorem dX1_hasWord_29 : decode cX1_hasWord 29 = .ok (.iconst 1, 1) := by decide +kernel
theorem dX1_hasWord_30 : decode cX1_hasWord 30 = .ok (.goto 4, 3) := by decide +kernel
theorem dX1_hasWord_33 : decode cX1_hasWord 33 = .ok (.iconst 0, 1) := by decide +kernel
theorem dX1_hasWord_34 : decode cX1_hasWord 34 = .ok (.ireturn, 1) := by decide +kernel
set_option maxRecDepth 20000 in
theorem ggX1_tie_X1_hasLink : GoodIn wsX1_tie wsX1_hasLink := goodIn_r _ [7, 8, 2, 9, 10, 11, 6, 12, 13, 14, 15, 16, 17, 18, 19, 25, 26, 27, 28, 29, 30, 31, 32, 33, 34, 35, 36, 37, 38, 39, 40, 41, 42, 43, 44, 45] (by decide +kernel) (by decide +kernel)
set_option maxRecDepth 20000 in
theorem gX1_tie_X1_hasLink : GoodIn wsX1_tie (wsV RX1 113 RX1 yX1_hasLink wsX1_hasLink) := goodIn_app (goodIn_of _ (by decide +kernel)) ggX1_tie_X1_hasLink
set_option maxRecDepth 20000 in
theorem ggX1_tie_X1_isRoot : GoodIn wsX1_tie wsX1_isRoot := goodIn_r _ [16, 17, 18, 6, 19] (by decide +kernel) (by decide +kernel)
set_option maxRecDepth 20000 in
theorem gX1_tie_X1_isRoot : GoodIn wsX1_tie (va_wsS RX1 98 yX1_isRoot wsX1_isRoot) := goodIn_app (goodIn_of _ (by decide +kernel)) ggX1_tie_X1_isRoot
set_option maxRecDepth 20000 in
theorem ggX1_tie_X1_says : GoodIn wsX1_tie wsX1_says := goodIn_r _ [23, 24, 25, 26, 27, 28, 29, 30, 31, 32, 33, 34, 35, 36, 37, 38, 39, 40, 41, 42, 43, 44, 45] (by decide +kernel) (by decide +kernel)
set_option maxRecDepth 20000 in
theorem gX1_tie_X1_says : GoodIn wsX1_tie (wsV RX1 102 RX1 yX1_says wsX1_says) := goodIn_app (goodIn_of _ (by decide +kernel)) ggX1_tie_X1_says
theorem dX1_tie_0 : decode cX1_tie 0 = .ok (.aload_n 0, 1) := by decide +kernel
theorem dX1_tie_1 : decode cX1_tie 1 = .ok (.aload_n 0, 1) := by decide +kernel
theorem dX1_tie_2 : decode cX1_tie 2 = .ok (.iload_n 1, 1) := by decide +kernel
theorem dX1_tie_3 : decode cX1_tie 3 = .ok (.iload_n 2, 1) := by decide +kernel
theorem dX1_tie_4 : decode cX1_tie 4 = .ok (.invokevirtual 113, 3) := by decide +kernel
theorem dX1_tie_7 : decode cX1_tie 7 = .ok (.ifCond .eq 14, 3) := by decide +kernel
theorem dX1_tie_10 : decode cX1_tie 10 = .ok (.iload_n 3, 1) := by decide +kernel
theorem dX1_tie_11 : decode cX1_tie 11 = .ok (.invokestatic 98, 3) := by decide +kernel
theorem dX1_tie_14 : decode cX1_tie 14 = .ok (.ifCond .eq 7, 3) := by decide +kernel
theorem dX1_tie_17 : decode cX1_tie 17 = .ok (.iconst 1, 1) := by decide +kernel
theorem dX1_tie_18 : decode cX1_tie 18 = .ok (.goto 4, 3) := by decide +kernel
theorem dX1_tie_21 : decode cX1_tie 21 = .ok (.iconst 0, 1) := by decide +kernel
theorem dX1_tie_22 : decode cX1_tie 22 = .ok (.invokevirtual 102, 3) := by decide +kernel
theorem dX1_tie_25 : decode cX1_tie 25 = .ok (.ifCond .eq 25, 3) := by decide +kernel
theorem dX1_tie_28 : decode cX1_tie 28 = .ok (.aload_n 0, 1) := by decide +kernel
theorem dX1_tie_29 : decode cX1_tie 29 = .ok (.getfield 30, 3) := by decide +kernel
theorem dX1_tie_32 : decode cX1_tie 32 = .ok (.bipush 8, 2) := by decide +kernel
theorem dX1_tie_34 : decode cX1_tie 34 = .ok (.aload_n 0, 1) := by decide +kernel
theorem dX1_tie_35 : decode cX1_tie 35 = .ok (.getfield 9, 3) := by decide +kernel
theorem dX1_tie_38 : decode cX1_tie 38 = .ok (.iload_n 1, 1) := by decide +kernel
theorem dX1_tie_39 : decode cX1_tie 39 = .ok (.iaload, 1) := by decide +kernel
theorem dX1_tie_40 : decode cX1_tie 40 = .ok (.imul, 1) := by decide +kernel
theorem dX1_tie_41 : decode cX1_tie 41 = .ok (.iload_n 2, 1) := by decide +kernel
theorem dX1_tie_42 : decode cX1_tie 42 = .ok (.iadd, 1) := by decide +kernel
theorem dX1_tie_43 : decode cX1_tie 43 = .ok (.aload_n 0, 1) := by decide +kernel
theorem dX1_tie_44 : decode cX1_tie 44 = .ok (.getfield 9, 3) := by decide +kernel
theorem dX1_tie_47 : decode cX1_tie 47 = .ok (.iload_n 3, 1) := by decide +kernel
theorem dX1_tie_48 : decode cX1_tie 48 = .ok (.iaload, 1) := by decide +kernel
theorem dX1_tie_49 : decode cX1_tie 49 = .ok (.iastore, 1) := by decide +kernel
theorem dX1_tie_50 : decode cX1_tie 50 = .ok (.return_, 1) := by decide +kernel
set_option maxRecDepth 20000 in
theorem ggX1_lead_X1_hasLink : GoodIn wsX1_lead wsX1_hasLink := goodIn_r _ [7, 8, 1, 9, 10, 11, 6, 12, 13, 14, 15, 16, 17, 18, 19, 25, 26, 27, 28, 29, 30, 31, 32, 33, 34, 35, 36, 37, 38, 39, 40, 41, 42, 43, 44, 45] (by decide +kernel) (by decide +kernel)
set_option maxRecDepth 20000 in
theorem gX1_lead_X1_hasLink : GoodIn wsX1_lead (wsV RX1 113 RX1 yX1_hasLink wsX1_hasLink) := goodIn_app (goodIn_of _ (by decide +kernel)) ggX1_lead_X1_hasLink
set_option maxRecDepth 20000 in
theorem ggX1_lead_X1_isRoot : GoodIn wsX1_lead wsX1_isRoot := goodIn_r _ [16, 17, 18, 6, 19] (by decide +kernel) (by decide +kernel)
set_option maxRecDepth 20000 in
theorem gX1_lead_X1_isRoot : GoodIn wsX1_lead (va_wsS RX1 98 yX1_isRoot wsX1_isRoot) := goodIn_app (goodIn_of _ (by decide +kernel)) ggX1_lead_X1_isRoot
set_option maxRecDepth 20000 in
theorem ggX1_lead_X1_says : GoodIn wsX1_lead wsX1_says := goodIn_r _ [23, 24, 25, 26, 27, 28, 29, 30, 31, 32, 33, 34, 35, 36, 37, 38, 39, 40, 41, 42, 43, 44, 45] (by decide +kernel) (by decide +kernel)
set_option maxRecDepth 20000 in
theorem gX1_lead_X1_says : GoodIn wsX1_lead (wsV RX1 102 RX1 yX1_says wsX1_says) := goodIn_app (goodIn_of _ (by decide +kernel)) ggX1_lead_X1_says
theorem dX1_lead_0 : decode cX1_lead 0 = .ok (.aload_n 0, 1) := by decide +kernel
theorem dX1_lead_1 : decode cX1_lead 1 = .ok (.aload_n 0, 1) := by decide +kernel
theorem dX1_lead_2 : decode cX1_lead 2 = .ok (.iload_n 1, 1) := by decide +kernel
theorem dX1_lead_3 : decode cX1_lead 3 = .ok (.iload_n 2, 1) := by decide +kernel
theorem dX1_lead_4 : decode cX1_lead 4 = .ok (.invokevirtual 113, 3) := by decide +kernel
theorem dX1_lead_7 : decode cX1_lead 7 = .ok (.ifCond .eq 14, 3) := by decide +kernel
theorem dX1_lead_10 : decode cX1_lead 10 = .ok (.iload_n 3, 1) := by decide +kernel
theorem dX1_lead_11 : decode cX1_lead 11 = .ok (.invokestatic 98, 3) := by decide +kernel
theorem dX1_lead_14 : decode cX1_lead 14 = .ok (.ifCond .eq 7, 3) := by decide +kernel
theorem dX1_lead_17 : decode cX1_lead 17 = .ok (.iconst 1, 1) := by decide +kernel
theorem dX1_lead_18 : decode cX1_lead 18 = .ok (.goto 4, 3) := by decide +kernel
theorem dX1_lead_21 : decode cX1_lead 21 = .ok (.iconst 0, 1) := by decide +kernel
theorem dX1_lead_22 : decode cX1_lead 22 = .ok (.invokevirtual 102, 3) := by decide +kernel
theorem dX1_lead_25 : decode cX1_lead 25 = .ok (.ifCond .eq 25, 3) := by decide +kernel
theorem dX1_lead_28 : decode cX1_lead 28 = .ok (.aload_n 0, 1) := by decide +kernel
theorem dX1_lead_29 : decode cX1_lead 29 = .ok (.getfield 9, 3) := by decide +kernel
theorem dX1_lead_32 : decode cX1_lead 32 = .ok (.iload_n 3, 1) := by decide +kernel
theorem dX1_lead_33 : decode cX1_lead 33 = .ok (.aload_n 0, 1) := by decide +kernel
theorem dX1_lead_34 : decode cX1_lead 34 = .ok (.getfield 30, 3) := by decide +kernel
theorem dX1_lead_37 : decode cX1_lead 37 = .ok (.bipush 8, 2) := by decide +kernel
theorem dX1_lead_39 : decode cX1_lead 39 = .ok (.aload_n 0, 1) := by decide +kernel
theorem dX1_lead_40 : decode cX1_lead 40 = .ok (.getfield 9, 3) := by decide +kernel
theorem dX1_lead_43 : decode cX1_lead 43 = .ok (.iload_n 1, 1) := by decide +kernel
theorem dX1_lead_44 : decode cX1_lead 44 = .ok (.iaload, 1) := by decide +kernel
theorem dX1_lead_45 : decode cX1_lead 45 = .ok (.imul, 1) := by decide +kernel
theorem dX1_lead_46 : decode cX1_lead 46 = .ok (.iload_n 2, 1) := by decide +kernel
theorem dX1_lead_47 : decode cX1_lead 47 = .ok (.iadd, 1) := by decide +kernel
theorem dX1_lead_48 : decode cX1_lead 48 = .ok (.iaload, 1) := by decide +kernel
theorem dX1_lead_49 : decode cX1_lead 49 = .ok (.iastore, 1) := by decide +kernel
theorem dX1_lead_50 : decode cX1_lead 50 = .ok (.return_, 1) := by decide +kernel
set_option maxRecDepth 20000 in
theorem ggX1_number_X1_hasValue : GoodIn wsX1_number wsX1_hasValue := goodIn_r _ [9, 10, 3, 11, 12, 13, 8, 14, 15, 16, 17, 18, 19, 20, 21, 27, 28, 29, 30, 31, 32, 33, 34, 35, 36, 37, 38, 39, 40, 41, 42, 43, 44, 45, 46, 47] (by decide +kernel) (by decide +kernel)
set_option maxRecDepth 20000 in
theorem gX1_number_X1_hasValue : GoodIn wsX1_number (wsV RX1 117 RX1 yX1_hasValue wsX1_hasValue) := goodIn_app (goodIn_of _ (by decide +kernel)) ggX1_number_X1_hasValue
set_option maxRecDepth 20000 in
theorem ggX1_number_X1_says : GoodIn wsX1_number wsX1_says := goodIn_r _ [25, 26, 27, 28, 29, 30, 31, 32, 33, 34, 35, 36, 37, 38, 39, 40, 41, 42, 43, 44, 45, 46, 47] (by decide +kernel) (by decide +kernel)
set_option maxRecDepth 20000 in
theorem gX1_number_X1_says : GoodIn wsX1_number (wsV RX1 102 RX1 yX1_says wsX1_says) := goodIn_app (goodIn_of _ (by decide +kernel)) ggX1_number_X1_says
theorem dX1_number_0 : decode cX1_number 0 = .ok (.aload_n 0, 1) := by decide +kernel
theorem dX1_number_1 : decode cX1_number 1 = .ok (.aload_n 0, 1) := by decide +kernel
theorem dX1_number_2 : decode cX1_number 2 = .ok (.iload_n 1, 1) := by decide +kernel
theorem dX1_number_3 : decode cX1_number 3 = .ok (.iload_n 2, 1) := by decide +kernel
theorem dX1_number_4 : decode cX1_number 4 = .ok (.invokevirtual 117, 3) := by decide +kernel
theorem dX1_number_7 : decode cX1_number 7 = .ok (.ifCond .eq 18, 3) := by decide +kernel
theorem dX1_number_10 : decode cX1_number 10 = .ok (.lload_n 3, 1) := by decide +kernel
theorem dX1_number_11 : decode cX1_number 11 = .ok (.bipush 48, 2) := by decide +kernel
theorem dX1_number_13 : decode cX1_number 13 = .ok (.lushr, 1) := by decide +kernel
theorem dX1_number_14 : decode cX1_number 14 = .ok (.ldc2_w 120, 3) := by decide +kernel
theorem dX1_number_17 : decode cX1_number 17 = .ok (.lcmp, 1) := by decide +kernel
theorem dX1_number_18 : decode cX1_number 18 = .ok (.ifCond .eq 7, 3) := by decide +kernel
theorem dX1_number_21 : decode cX1_number 21 = .ok (.iconst 1, 1) := by decide +kernel
theorem dX1_number_22 : decode cX1_number 22 = .ok (.goto 4, 3) := by decide +kernel
theorem dX1_number_25 : decode cX1_number 25 = .ok (.iconst 0, 1) := by decide +kernel
theorem dX1_number_26 : decode cX1_number 26 = .ok (.invokevirtual 102, 3) := by decide +kernel
theorem dX1_number_29 : decode cX1_number 29 = .ok (.ifCond .ne 4, 3) := by decide +kernel
theorem dX1_number_32 : decode cX1_number 32 = .ok (.return_, 1) := by decide +kernel
theorem dX1_number_33 : decode cX1_number 33 = .ok (.aload_n 0, 1) := by decide +kernel
theorem dX1_number_34 : decode cX1_number 34 = .ok (.getfield 33, 3) := by decide +kernel
theorem dX1_number_37 : decode cX1_number 37 = .ok (.bipush 8, 2) := by decide +kernel
theorem dX1_number_39 : decode cX1_number 39 = .ok (.aload_n 0, 1) := by decide +kernel
theorem dX1_number_40 : decode cX1_number 40 = .ok (.getfield 9, 3) := by decide +kernel
theorem dX1_number_43 : decode cX1_number 43 = .ok (.iload_n 1, 1) := by decide +kernel
theorem dX1_number_44 : decode cX1_number 44 = .ok (.iaload, 1) := by decide +kernel
theorem dX1_number_45 : decode cX1_number 45 = .ok (.imul, 1) := by decide +kernel
theorem dX1_number_46 : decode cX1_number 46 = .ok (.iload_n 2, 1) := by decide +kernel
theorem dX1_number_47 : decode cX1_number 47 = .ok (.iadd, 1) := by decide +kernel
theorem dX1_number_48 : decode cX1_number 48 = .ok (.lload_n 3, 1) := by decide +kernel
theorem dX1_number_49 : decode cX1_number 49 = .ok (.lastore, 1) := by decide +kernel
theorem dX1_number_50 : decode cX1_number 50 = .ok (.aload_n 0, 1) := by decide +kernel
theorem dX1_number_51 : decode cX1_number 51 = .ok (.getfield 37, 3) := by decide +kernel
theorem dX1_number_54 : decode cX1_number 54 = .ok (.bipush 8, 2) := by decide +kernel
theorem dX1_number_56 : decode cX1_number 56 = .ok (.aload_n 0, 1) := by decide +kernel
theorem dX1_number_57 : decode cX1_number 57 = .ok (.getfield 9, 3) := by decide +kernel
theorem dX1_number_60 : decode cX1_number 60 = .ok (.iload_n 1, 1) := by decide +kernel
theorem dX1_number_61 : decode cX1_number 61 = .ok (.iaload, 1) := by decide +kernel
theorem dX1_number_62 : decode cX1_number 62 = .ok (.imul, 1) := by decide +kernel
theorem dX1_number_63 : decode cX1_number 63 = .ok (.iload_n 2, 1) := by decide +kernel
theorem dX1_number_64 : decode cX1_number 64 = .ok (.iadd, 1) := by decide +kernel
theorem dX1_number_65 : decode cX1_number 65 = .ok (.iconst 0, 1) := by decide +kernel
theorem dX1_number_66 : decode cX1_number 66 = .ok (.iastore, 1) := by decide +kernel
theorem dX1_number_67 : decode cX1_number 67 = .ok (.return_, 1) := by decide +kernel
set_option maxRecDepth 20000 in
theorem ggX1_refer_X1_hasValue : GoodIn wsX1_refer wsX1_hasValue := goodIn_r _ [7, 8, 1, 9, 10, 11, 6, 12, 13, 14, 15, 16, 17, 18, 19, 25, 26, 27, 28, 29, 30, 31, 32, 33, 34, 35, 36, 37, 38, 39, 40, 41, 42, 43, 44, 45] (by decide +kernel) (by decide +kernel)
set_option maxRecDepth 20000 in
theorem gX1_refer_X1_hasValue : GoodIn wsX1_refer (wsV RX1 117 RX1 yX1_hasValue wsX1_hasValue) := goodIn_app (goodIn_of _ (by decide +kernel)) ggX1_refer_X1_hasValue
set_option maxRecDepth 20000 in
theorem ggX1_refer_X1_isRoot : GoodIn wsX1_refer wsX1_isRoot := goodIn_r _ [16, 17, 18, 6, 19] (by decide +kernel) (by decide +kernel)
set_option maxRecDepth 20000 in
theorem gX1_refer_X1_isRoot : GoodIn wsX1_refer (va_wsS RX1 98 yX1_isRoot wsX1_isRoot) := goodIn_app (goodIn_of _ (by decide +kernel)) ggX1_refer_X1_isRoot
set_option maxRecDepth 20000 in
theorem ggX1_refer_X1_says : GoodIn wsX1_refer wsX1_says := goodIn_r _ [23, 24, 25, 26, 27, 28, 29, 30, 31, 32, 33, 34, 35, 36, 37, 38, 39, 40, 41, 42, 43, 44, 45] (by decide +kernel) (by decide +kernel)
set_option maxRecDepth 20000 in
theorem gX1_refer_X1_says : GoodIn wsX1_refer (wsV RX1 102 RX1 yX1_says wsX1_says) := goodIn_app (goodIn_of _ (by decide +kernel)) ggX1_refer_X1_says
theorem dX1_refer_0 : decode cX1_refer 0 = .ok (.aload_n 0, 1) := by decide +kernel
theorem dX1_refer_1 : decode cX1_refer 1 = .ok (.iload_n 1, 1) := by decide +kernel
theorem dX1_refer_2 : decode cX1_refer 2 = .ok (.iload_n 2, 1) := by decide +kernel
theorem dX1_refer_3 : decode cX1_refer 3 = .ok (.invokevirtual 117, 3) := by decide +kernel
theorem dX1_refer_6 : decode cX1_refer 6 = .ok (.ifCond .eq 14, 3) := by decide +kernel
theorem dX1_refer_9 : decode cX1_refer 9 = .ok (.iload_n 3, 1) := by decide +kernel
theorem dX1_refer_10 : decode cX1_refer 10 = .ok (.invokestatic 98, 3) := by decide +kernel
theorem dX1_refer_13 : decode cX1_refer 13 = .ok (.ifCond .eq 7, 3) := by decide +kernel
theorem dX1_refer_16 : decode cX1_refer 16 = .ok (.iconst 1, 1) := by decide +kernel
theorem dX1_refer_17 : decode cX1_refer 17 = .ok (.goto 4, 3) := by decide +kernel
theorem dX1_refer_20 : decode cX1_refer 20 = .ok (.iconst 0, 1) := by decide +kernel
theorem dX1_refer_21 : decode cX1_refer 21 = .ok (.istore 4, 2) := by decide +kernel
theorem dX1_refer_23 : decode cX1_refer 23 = .ok (.aload_n 0, 1) := by decide +kernel
theorem dX1_refer_24 : decode cX1_refer 24 = .ok (.iload 4, 2) := by decide +kernel
theorem dX1_refer_26 : decode cX1_refer 26 = .ok (.ifCond .eq 16, 3) := by decide +kernel
theorem dX1_refer_29 : decode cX1_refer 29 = .ok (.aload_n 0, 1) := by decide +kernel
theorem dX1_refer_30 : decode cX1_refer 30 = .ok (.getfield 9, 3) := by decide +kernel
theorem dX1_refer_33 : decode cX1_refer 33 = .ok (.iload_n 3, 1) := by decide +kernel
theorem dX1_refer_34 : decode cX1_refer 34 = .ok (.iaload, 1) := by decide +kernel
theorem dX1_refer_35 : decode cX1_refer 35 = .ok (.ifCond .le 7, 3) := by decide +kernel
theorem dX1_refer_38 : decode cX1_refer 38 = .ok (.iconst 1, 1) := by decide +kernel
theorem dX1_refer_39 : decode cX1_refer 39 = .ok (.goto 4, 3) := by decide +kernel
theorem dX1_refer_42 : decode cX1_refer 42 = .ok (.iconst 0, 1) := by decide +kernel
theorem dX1_refer_43 : decode cX1_refer 43 = .ok (.invokevirtual 102, 3) := by decide +kernel
theorem dX1_refer_46 : decode cX1_refer 46 = .ok (.ifCond .eq 25, 3) := by decide +kernel
theorem dX1_refer_49 : decode cX1_refer 49 = .ok (.aload_n 0, 1) := by decide +kernel
theorem dX1_refer_50 : decode cX1_refer 50 = .ok (.getfield 37, 3) := by decide +kernel
theorem dX1_refer_53 : decode cX1_refer 53 = .ok (.bipush 8, 2) := by decide +kernel
theorem dX1_refer_55 : decode cX1_refer 55 = .ok (.aload_n 0, 1) := by decide +kernel
theorem dX1_refer_56 : decode cX1_refer 56 = .ok (.getfield 9, 3) := by decide +kernel
theorem dX1_refer_59 : decode cX1_refer 59 = .ok (.iload_n 1, 1) := by decide +kernel
theorem dX1_refer_60 : decode cX1_refer 60 = .ok (.iaload, 1) := by decide +kernel
theorem dX1_refer_61 : decode cX1_refer 61 = .ok (.imul, 1) := by decide +kernel
theorem dX1_refer_62 : decode cX1_refer 62 = .ok (.iload_n 2, 1) := by decide +kernel
theorem dX1_refer_63 : decode cX1_refer 63 = .ok (.iadd, 1) := by decide +kernel
theorem dX1_refer_64 : decode cX1_refer 64 = .ok (.aload_n 0, 1) := by decide +kernel
theorem dX1_refer_65 : decode cX1_refer 65 = .ok (.getfield 9, 3) := by decide +kernel
theorem dX1_refer_68 : decode cX1_refer 68 = .ok (.iload_n 3, 1) := by decide +kernel
theorem dX1_refer_69 : decode cX1_refer 69 = .ok (.iaload, 1) := by decide +kernel
theorem dX1_refer_70 : decode cX1_refer 70 = .ok (.iastore, 1) := by decide +kernel
theorem dX1_refer_71 : decode cX1_refer 71 = .ok (.return_, 1) := by decide +kernel
set_option maxRecDepth 20000 in
theorem ggX1_bits_X1_hasValue : GoodIn wsX1_bits wsX1_hasValue := goodIn_r _ [8, 9, 2, 10, 11, 12, 7, 13, 14, 15, 16, 17, 18, 19, 20, 26, 27, 28, 29, 30, 31, 32, 33, 34, 35, 36, 37, 38, 39, 40, 41, 42, 43, 44, 45, 46] (by decide +kernel) (by decide +kernel)
set_option maxRecDepth 20000 in
theorem gX1_bits_X1_hasValue : GoodIn wsX1_bits (wsV RX1 117 RX1 yX1_hasValue wsX1_hasValue) := goodIn_app (goodIn_of _ (by decide +kernel)) ggX1_bits_X1_hasValue
set_option maxRecDepth 20000 in
theorem ggX1_bits_X1_says : GoodIn wsX1_bits wsX1_says := goodIn_r _ [24, 25, 26, 27, 28, 29, 30, 31, 32, 33, 34, 35, 36, 37, 38, 39, 40, 41, 42, 43, 44, 45, 46] (by decide +kernel) (by decide +kernel)
set_option maxRecDepth 20000 in
theorem gX1_bits_X1_says : GoodIn wsX1_bits (wsV RX1 102 RX1 yX1_says wsX1_says) := goodIn_app (goodIn_of _ (by decide +kernel)) ggX1_bits_X1_says
theorem dX1_bits_0 : decode cX1_bits 0 = .ok (.aload_n 0, 1) := by decide +kernel
theorem dX1_bits_1 : decode cX1_bits 1 = .ok (.iload_n 1, 1) := by decide +kernel
theorem dX1_bits_2 : decode cX1_bits 2 = .ok (.iload_n 2, 1) := by decide +kernel
theorem dX1_bits_3 : decode cX1_bits 3 = .ok (.invokevirtual 117, 3) := by decide +kernel
theorem dX1_bits_6 : decode cX1_bits 6 = .ok (.istore_n 3, 1) := by decide +kernel
theorem dX1_bits_7 : decode cX1_bits 7 = .ok (.aload_n 0, 1) := by decide +kernel
theorem dX1_bits_8 : decode cX1_bits 8 = .ok (.iload_n 3, 1) := by decide +kernel
theorem dX1_bits_9 : decode cX1_bits 9 = .ok (.ifCond .eq 26, 3) := by decide +kernel
theorem dX1_bits_12 : decode cX1_bits 12 = .ok (.aload_n 0, 1) := by decide +kernel
theorem dX1_bits_13 : decode cX1_bits 13 = .ok (.getfield 37, 3) := by decide +kernel
theorem dX1_bits_16 : decode cX1_bits 16 = .ok (.bipush 8, 2) := by decide +kernel
theorem dX1_bits_18 : decode cX1_bits 18 = .ok (.aload_n 0, 1) := by decide +kernel
theorem dX1_bits_19 : decode cX1_bits 19 = .ok (.getfield 9, 3) := by decide +kernel
theorem dX1_bits_22 : decode cX1_bits 22 = .ok (.iload_n 1, 1) := by decide +kernel
theorem dX1_bits_23 : decode cX1_bits 23 = .ok (.iaload, 1) := by decide +kernel
theorem dX1_bits_24 : decode cX1_bits 24 = .ok (.imul, 1) := by decide +kernel
theorem dX1_bits_25 : decode cX1_bits 25 = .ok (.iload_n 2, 1) := by decide +kernel
theorem dX1_bits_26 : decode cX1_bits 26 = .ok (.iadd, 1) := by decide +kernel
theorem dX1_bits_27 : decode cX1_bits 27 = .ok (.iaload, 1) := by decide +kernel
theorem dX1_bits_28 : decode cX1_bits 28 = .ok (.ifCond .ne 7, 3) := by decide +kernel
theorem dX1_bits_31 : decode cX1_bits 31 = .ok (.iconst 1, 1) := by decide +kernel
theorem dX1_bits_32 : decode cX1_bits 32 = .ok (.goto 4, 3) := by decide +kernel
theorem dX1_bits_35 : decode cX1_bits 35 = .ok (.iconst 0, 1) := by decide +kernel
theorem dX1_bits_36 : decode cX1_bits 36 = .ok (.invokevirtual 102, 3) := by decide +kernel
theorem dX1_bits_39 : decode cX1_bits 39 = .ok (.ifCond .eq 22, 3) := by decide +kernel
theorem dX1_bits_42 : decode cX1_bits 42 = .ok (.aload_n 0, 1) := by decide +kernel
theorem dX1_bits_43 : decode cX1_bits 43 = .ok (.getfield 33, 3) := by decide +kernel
theorem dX1_bits_46 : decode cX1_bits 46 = .ok (.bipush 8, 2) := by decide +kernel
theorem dX1_bits_48 : decode cX1_bits 48 = .ok (.aload_n 0, 1) := by decide +kernel
theorem dX1_bits_49 : decode cX1_bits 49 = .ok (.getfield 9, 3) := by decide +kernel
theorem dX1_bits_52 : decode cX1_bits 52 = .ok (.iload_n 1, 1) := by decide +kernel
theorem dX1_bits_53 : decode cX1_bits 53 = .ok (.iaload, 1) := by decide +kernel
theorem dX1_bits_54 : decode cX1_bits 54 = .ok (.imul, 1) := by decide +kernel
theorem dX1_bits_55 : decode cX1_bits 55 = .ok (.iload_n 2, 1) := by decide +kernel
theorem dX1_bits_56 : decode cX1_bits 56 = .ok (.iadd, 1) := by decide +kernel
theorem dX1_bits_57 : decode cX1_bits 57 = .ok (.laload, 1) := by decide +kernel
theorem dX1_bits_58 : decode cX1_bits 58 = .ok (.goto 4, 3) := by decide +kernel
theorem dX1_bits_61 : decode cX1_bits 61 = .ok (.lconst 0, 1) := by decide +kernel
theorem dX1_bits_62 : decode cX1_bits 62 = .ok (.lreturn, 1) := by decide +kernel
set_option maxRecDepth 20000 in
theorem ggX1_follow_X1_hasValue : GoodIn wsX1_follow wsX1_hasValue := goodIn_r _ [7, 8, 2, 9, 10, 11, 6, 12, 13, 14, 15, 16, 17, 18, 19, 25, 26, 27, 28, 29, 30, 31, 32, 33, 34, 35, 36, 37, 38, 39, 40, 41, 42, 43, 44, 45] (by decide +kernel) (by decide +kernel)
set_option maxRecDepth 20000 in
theorem gX1_follow_X1_hasValue : GoodIn wsX1_follow (wsV RX1 117 RX1 yX1_hasValue wsX1_hasValue) := goodIn_app (goodIn_of _ (by decide +kernel)) ggX1_follow_X1_hasValue
set_option maxRecDepth 20000 in
theorem ggX1_follow_X1_isRoot : GoodIn wsX1_follow wsX1_isRoot := goodIn_r _ [16, 17, 18, 6, 19] (by decide +kernel) (by decide +kernel)
set_option maxRecDepth 20000 in
theorem gX1_follow_X1_isRoot : GoodIn wsX1_follow (va_wsS RX1 98 yX1_isRoot wsX1_isRoot) := goodIn_app (goodIn_of _ (by decide +kernel)) ggX1_follow_X1_isRoot
set_option maxRecDepth 20000 in
theorem ggX1_follow_X1_says : GoodIn wsX1_follow wsX1_says := goodIn_r _ [23, 24, 25, 26, 27, 28, 29, 30, 31, 32, 33, 34, 35, 36, 37, 38, 39, 40, 41, 42, 43, 44, 45] (by decide +kernel) (by decide +kernel)
set_option maxRecDepth 20000 in
theorem gX1_follow_X1_says : GoodIn wsX1_follow (wsV RX1 102 RX1 yX1_says wsX1_says) := goodIn_app (goodIn_of _ (by decide +kernel)) ggX1_follow_X1_says
theorem dX1_follow_0 : decode cX1_follow 0 = .ok (.aload_n 0, 1) := by decide +kernel
theorem dX1_follow_1 : decode cX1_follow 1 = .ok (.aload_n 0, 1) := by decide +kernel
theorem dX1_follow_2 : decode cX1_follow 2 = .ok (.iload_n 1, 1) := by decide +kernel
theorem dX1_follow_3 : decode cX1_follow 3 = .ok (.iload_n 2, 1) := by decide +kernel
theorem dX1_follow_4 : decode cX1_follow 4 = .ok (.invokevirtual 117, 3) := by decide +kernel
theorem dX1_follow_7 : decode cX1_follow 7 = .ok (.ifCond .eq 14, 3) := by decide +kernel
theorem dX1_follow_10 : decode cX1_follow 10 = .ok (.iload_n 3, 1) := by decide +kernel
theorem dX1_follow_11 : decode cX1_follow 11 = .ok (.invokestatic 98, 3) := by decide +kernel
theorem dX1_follow_14 : decode cX1_follow 14 = .ok (.ifCond .eq 7, 3) := by decide +kernel
theorem dX1_follow_17 : decode cX1_follow 17 = .ok (.iconst 1, 1) := by decide +kernel
theorem dX1_follow_18 : decode cX1_follow 18 = .ok (.goto 4, 3) := by decide +kernel
theorem dX1_follow_21 : decode cX1_follow 21 = .ok (.iconst 0, 1) := by decide +kernel
theorem dX1_follow_22 : decode cX1_follow 22 = .ok (.invokevirtual 102, 3) := by decide +kernel
theorem dX1_follow_25 : decode cX1_follow 25 = .ok (.ifCond .ne 5, 3) := by decide +kernel
theorem dX1_follow_28 : decode cX1_follow 28 = .ok (.iconst 0, 1) := by decide +kernel
theorem dX1_follow_29 : decode cX1_follow 29 = .ok (.ireturn, 1) := by decide +kernel
theorem dX1_follow_30 : decode cX1_follow 30 = .ok (.aload_n 0, 1) := by decide +kernel
theorem dX1_follow_31 : decode cX1_follow 31 = .ok (.getfield 37, 3) := by decide +kernel
theorem dX1_follow_34 : decode cX1_follow 34 = .ok (.bipush 8, 2) := by decide +kernel
theorem dX1_follow_36 : decode cX1_follow 36 = .ok (.aload_n 0, 1) := by decide +kernel
theorem dX1_follow_37 : decode cX1_follow 37 = .ok (.getfield 9, 3) := by decide +kernel
theorem dX1_follow_40 : decode cX1_follow 40 = .ok (.iload_n 1, 1) := by decide +kernel
theorem dX1_follow_41 : decode cX1_follow 41 = .ok (.iaload, 1) := by decide +kernel
theorem dX1_follow_42 : decode cX1_follow 42 = .ok (.imul, 1) := by decide +kernel
theorem dX1_follow_43 : decode cX1_follow 43 = .ok (.iload_n 2, 1) := by decide +kernel
theorem dX1_follow_44 : decode cX1_follow 44 = .ok (.iadd, 1) := by decide +kernel
theorem dX1_follow_45 : decode cX1_follow 45 = .ok (.iaload, 1) := by decide +kernel
theorem dX1_follow_46 : decode cX1_follow 46 = .ok (.istore 4, 2) := by decide +kernel
theorem dX1_follow_48 : decode cX1_follow 48 = .ok (.iload 4, 2) := by decide +kernel
theorem dX1_follow_50 : decode cX1_follow 50 = .ok (.ifCond .le 11, 3) := by decide +kernel
theorem dX1_follow_53 : decode cX1_follow 53 = .ok (.aload_n 0, 1) := by decide +kernel
theorem dX1_follow_54 : decode cX1_follow 54 = .ok (.getfield 9, 3) := by decide +kernel
theorem dX1_follow_57 : decode cX1_follow 57 = .ok (.iload_n 3, 1) := by decide +kernel
theorem dX1_follow_58 : decode cX1_follow 58 = .ok (.iload 4, 2) := by decide +kernel
theorem dX1_follow_60 : decode cX1_follow 60 = .ok (.iastore, 1) := by decide +kernel
theorem dX1_follow_61 : decode cX1_follow 61 = .ok (.iload 4, 2) := by decide +kernel
theorem dX1_follow_63 : decode cX1_follow 63 = .ok (.ifCond .le 7, 3) := by decide +kernel
theorem dX1_follow_66 : decode cX1_follow 66 = .ok (.iconst 1, 1) := by decide +kernel
theorem dX1_follow_67 : decode cX1_follow 67 = .ok (.goto 4, 3) := by decide +kernel
theorem dX1_follow_70 : decode cX1_follow 70 = .ok (.iconst 0, 1) := by decide +kernel
theorem dX1_follow_71 : decode cX1_follow 71 = .ok (.ireturn, 1) := by decide +kernel
set_option maxRecDepth 20000 in
theorem ggX1_set_X1_hasWord : GoodIn wsX1_set wsX1_hasWord := goodIn_r _ [7, 8, 2, 9, 10, 11, 6, 12, 13, 14, 15, 16, 17, 18, 19, 25, 26, 27, 28, 29, 30, 31, 32, 33, 34, 35, 36, 37, 38, 39, 40, 41, 42, 43, 44, 45] (by decide +kernel) (by decide +kernel)
set_option maxRecDepth 20000 in
theorem gX1_set_X1_hasWord : GoodIn wsX1_set (wsV RX1 122 RX1 yX1_hasWord wsX1_hasWord) := goodIn_app (goodIn_of _ (by decide +kernel)) ggX1_set_X1_hasWord
set_option maxRecDepth 20000 in
theorem ggX1_set_X1_says : GoodIn wsX1_set wsX1_says := goodIn_r _ [23, 24, 25, 26, 27, 28, 29, 30, 31, 32, 33, 34, 35, 36, 37, 38, 39, 40, 41, 42, 43, 44, 45] (by decide +kernel) (by decide +kernel)
set_option maxRecDepth 20000 in
theorem gX1_set_X1_says : GoodIn wsX1_set (wsV RX1 102 RX1 yX1_says wsX1_says) := goodIn_app (goodIn_of _ (by decide +kernel)) ggX1_set_X1_says
theorem dX1_set_0 : decode cX1_set 0 = .ok (.aload_n 0, 1) := by decide +kernel
theorem dX1_set_1 : decode cX1_set 1 = .ok (.aload_n 0, 1) := by decide +kernel
theorem dX1_set_2 : decode cX1_set 2 = .ok (.iload_n 1, 1) := by decide +kernel
theorem dX1_set_3 : decode cX1_set 3 = .ok (.iload_n 2, 1) := by decide +kernel
theorem dX1_set_4 : decode cX1_set 4 = .ok (.invokevirtual 122, 3) := by decide +kernel
theorem dX1_set_7 : decode cX1_set 7 = .ok (.invokevirtual 102, 3) := by decide +kernel
theorem dX1_set_10 : decode cX1_set 10 = .ok (.ifCond .eq 20, 3) := by decide +kernel
theorem dX1_set_13 : decode cX1_set 13 = .ok (.aload_n 0, 1) := by decide +kernel
theorem dX1_set_14 : decode cX1_set 14 = .ok (.getfield 41, 3) := by decide +kernel
theorem dX1_set_17 : decode cX1_set 17 = .ok (.bipush 16, 2) := by decide +kernel
theorem dX1_set_19 : decode cX1_set 19 = .ok (.aload_n 0, 1) := by decide +kernel
theorem dX1_set_20 : decode cX1_set 20 = .ok (.getfield 9, 3) := by decide +kernel
theorem dX1_set_23 : decode cX1_set 23 = .ok (.iload_n 1, 1) := by decide +kernel
theorem dX1_set_24 : decode cX1_set 24 = .ok (.iaload, 1) := by decide +kernel
theorem dX1_set_25 : decode cX1_set 25 = .ok (.imul, 1) := by decide +kernel
theorem dX1_set_26 : decode cX1_set 26 = .ok (.iload_n 2, 1) := by decide +kernel
theorem dX1_set_27 : decode cX1_set 27 = .ok (.iadd, 1) := by decide +kernel
theorem dX1_set_28 : decode cX1_set 28 = .ok (.iload_n 3, 1) := by decide +kernel
theorem dX1_set_29 : decode cX1_set 29 = .ok (.iastore, 1) := by decide +kernel
theorem dX1_set_30 : decode cX1_set 30 = .ok (.return_, 1) := by decide +kernel
set_option maxRecDepth 20000 in
theorem ggX1_get_X1_hasWord : GoodIn wsX1_get wsX1_hasWord := goodIn_r _ [7, 8, 2, 9, 10, 11, 6, 12, 13, 14, 15, 16, 17, 18, 19, 25, 26, 27, 28, 29, 30, 31, 32, 33, 34, 35, 36, 37, 38, 39, 40, 41, 42, 43, 44, 45] (by decide +kernel) (by decide +kernel)
set_option maxRecDepth 20000 in
theorem gX1_get_X1_hasWord : GoodIn wsX1_get (wsV RX1 122 RX1 yX1_hasWord wsX1_hasWord) := goodIn_app (goodIn_of _ (by decide +kernel)) ggX1_get_X1_hasWord
set_option maxRecDepth 20000 in
theorem ggX1_get_X1_says : GoodIn wsX1_get wsX1_says := goodIn_r _ [23, 24, 25, 26, 27, 28, 29, 30, 31, 32, 33, 34, 35, 36, 37, 38, 39, 40, 41, 42, 43, 44, 45] (by decide +kernel) (by decide +kernel)
set_option maxRecDepth 20000 in
theorem gX1_get_X1_says : GoodIn wsX1_get (wsV RX1 102 RX1 yX1_says wsX1_says) := goodIn_app (goodIn_of _ (by decide +kernel)) ggX1_get_X1_says
theorem dX1_get_0 : decode cX1_get 0 = .ok (.aload_n 0, 1) := by decide +kernel
theorem dX1_get_1 : decode cX1_get 1 = .ok (.aload_n 0, 1) := by decide +kernel
theorem dX1_get_2 : decode cX1_get 2 = .ok (.iload_n 1, 1) := by decide +kernel
theorem dX1_get_3 : decode cX1_get 3 = .ok (.iload_n 2, 1) := by decide +kernel
theorem dX1_get_4 : decode cX1_get 4 = .ok (.invokevirtual 122, 3) := by decide +kernel
theorem dX1_get_7 : decode cX1_get 7 = .ok (.invokevirtual 102, 3) := by decide +kernel
theorem dX1_get_10 : decode cX1_get 10 = .ok (.ifCond .eq 22, 3) := by decide +kernel
theorem dX1_get_13 : decode cX1_get 13 = .ok (.aload_n 0, 1) := by decide +kernel
theorem dX1_get_14 : decode cX1_get 14 = .ok (.getfield 41, 3) := by decide +kernel
theorem dX1_get_17 : decode cX1_get 17 = .ok (.bipush 16, 2) := by decide +kernel
theorem dX1_get_19 : decode cX1_get 19 = .ok (.aload_n 0, 1) := by decide +kernel
theorem dX1_get_20 : decode cX1_get 20 = .ok (.getfield 9, 3) := by decide +kernel
theorem dX1_get_23 : decode cX1_get 23 = .ok (.iload_n 1, 1) := by decide +kernel
theorem dX1_get_24 : decode cX1_get 24 = .ok (.iaload, 1) := by decide +kernel
theorem dX1_get_25 : decode cX1_get 25 = .ok (.imul, 1) := by decide +kernel
theorem dX1_get_26 : decode cX1_get 26 = .ok (.iload_n 2, 1) := by decide +kernel
theorem dX1_get_27 : decode cX1_get 27 = .ok (.iadd, 1) := by decide +kernel
theorem dX1_get_28 : decode cX1_get 28 = .ok (.iaload, 1) := by decide +kernel
theorem dX1_get_29 : decode cX1_get 29 = .ok (.goto 4, 3) := by decide +kernel
theorem dX1_get_32 : decode cX1_get 32 = .ok (.iconst 0, 1) := by decide +kernel
theorem dX1_get_33 : decode cX1_get 33 = .ok (.ireturn, 1) := by decide +kernel
set_option maxRecDepth 20000 in
theorem ggX1_isText_X1_isRoot : GoodIn wsX1_isText wsX1_isRoot := goodIn_r _ [6, 7, 8, 5, 9] (by decide +kernel) (by decide +kernel)
set_option maxRecDepth 20000 in
theorem gX1_isText_X1_isRoot : GoodIn wsX1_isText (va_wsS RX1 98 yX1_isRoot wsX1_isRoot) := goodIn_app (goodIn_of _ (by decide +kernel)) ggX1_isText_X1_isRoot
theorem dX1_isText_0 : decode cX1_isText 0 = .ok (.iload_n 1, 1) := by decide +kernel
theorem dX1_isText_1 : decode cX1_isText 1 = .ok (.invokestatic 98, 3) := by decide +kernel
theorem dX1_isText_4 : decode cX1_isText 4 = .ok (.ifCond .eq 22, 3) := by decide +kernel
theorem dX1_isText_7 : decode cX1_isText 7 = .ok (.aload_n 0, 1) := by decide +kernel
theorem dX1_isText_8 : decode cX1_isText 8 = .ok (.getfield 17, 3) := by decide +kernel
theorem dX1_isText_11 : decode cX1_isText 11 = .ok (.aload_n 0, 1) := by decide +kernel
theorem dX1_isText_12 : decode cX1_isText 12 = .ok (.getfield 9, 3) := by decide +kernel
theorem dX1_isText_15 : decode cX1_isText 15 = .ok (.iload_n 1, 1) := by decide +kernel
theorem dX1_isText_16 : decode cX1_isText 16 = .ok (.iaload, 1) := by decide +kernel
theorem dX1_isText_17 : decode cX1_isText 17 = .ok (.iaload, 1) := by decide +kernel
theorem dX1_isText_18 : decode cX1_isText 18 = .ok (.iconst 1, 1) := by decide +kernel
theorem dX1_isText_19 : decode cX1_isText 19 = .ok (.if_icmp .le 7, 3) := by decide +kernel
theorem dX1_isText_22 : decode cX1_isText 22 = .ok (.iconst 1, 1) := by decide +kernel
theorem dX1_isText_23 : decode cX1_isText 23 = .ok (.goto 4, 3) := by decide +kernel
theorem dX1_isText_26 : decode cX1_isText 26 = .ok (.iconst 0, 1) := by decide +kernel
theorem dX1_isText_27 : decode cX1_isText 27 = .ok (.ireturn, 1) := by decide +kernel
theorem dX1_unitOf_0 : decode cX1_unitOf 0 = .ok (.iload_n 1, 1) := by decide +kernel
theorem dX1_unitOf_1 : decode cX1_unitOf 1 = .ok (.istore_n 3, 1) := by decide +kernel
theorem dX1_unitOf_2 : decode cX1_unitOf 2 = .ok (.iload_n 2, 1) := by decide +kernel
theorem dX1_unitOf_3 : decode cX1_unitOf 3 = .ok (.istore 4, 2) := by decide +kernel
theorem dX1_unitOf_5 : decode cX1_unitOf 5 = .ok (.aload_n 0, 1) := by decide +kernel
theorem dX1_unitOf_6 : decode cX1_unitOf 6 = .ok (.getfield 47, 3) := by decide +kernel
theorem dX1_unitOf_9 : decode cX1_unitOf 9 = .ok (.iload_n 3, 1) := by decide +kernel
theorem dX1_unitOf_10 : decode cX1_unitOf 10 = .ok (.iaload, 1) := by decide +kernel
theorem dX1_unitOf_11 : decode cX1_unitOf 11 = .ok (.ifCond .le 86, 3) := by decide +kernel
theorem dX1_unitOf_14 : decode cX1_unitOf 14 = .ok (.aload_n 0, 1) := by decide +kernel
theorem dX1_unitOf_15 : decode cX1_unitOf 15 = .ok (.getfield 47, 3) := by decide +kernel
theorem dX1_unitOf_18 : decode cX1_unitOf 18 = .ok (.iload_n 3, 1) := by decide +kernel
theorem dX1_unitOf_19 : decode cX1_unitOf 19 = .ok (.iaload, 1) := by decide +kernel
theorem dX1_unitOf_20 : decode cX1_unitOf 20 = .ok (.iconst 1, 1) := by decide +kernel
theorem dX1_unitOf_21 : decode cX1_unitOf 21 = .ok (.if_icmp .ne 24, 3) := by decide +kernel
theorem dX1_unitOf_24 : decode cX1_unitOf 24 = .ok (.iload 4, 2) := by decide +kernel
theorem dX1_unitOf_26 : decode cX1_unitOf 26 = .ok (.aload_n 0, 1) := by decide +kernel
theorem dX1_unitOf_27 : decode cX1_unitOf 27 = .ok (.getfield 53, 3) := by decide +kernel
theorem dX1_unitOf_30 : decode cX1_unitOf 30 = .ok (.iload_n 3, 1) := by decide +kernel
theorem dX1_unitOf_31 : decode cX1_unitOf 31 = .ok (.iaload, 1) := by decide +kernel
theorem dX1_unitOf_32 : decode cX1_unitOf 32 = .ok (.iadd, 1) := by decide +kernel
theorem dX1_unitOf_33 : decode cX1_unitOf 33 = .ok (.istore 4, 2) := by decide +kernel
theorem dX1_unitOf_35 : decode cX1_unitOf 35 = .ok (.aload_n 0, 1) := by decide +kernel
theorem dX1_unitOf_36 : decode cX1_unitOf 36 = .ok (.getfield 50, 3) := by decide +kernel
theorem dX1_unitOf_39 : decode cX1_unitOf 39 = .ok (.iload_n 3, 1) := by decide +kernel
theorem dX1_unitOf_40 : decode cX1_unitOf 40 = .ok (.iaload, 1) := by decide +kernel
theorem dX1_unitOf_41 : decode cX1_unitOf 41 = .ok (.istore_n 3, 1) := by decide +kernel
theorem dX1_unitOf_42 : decode cX1_unitOf 42 = .ok (.goto (-37), 3) := by decide +kernel
theorem dX1_unitOf_45 : decode cX1_unitOf 45 = .ok (.iload 4, 2) := by decide +kernel
theorem dX1_unitOf_47 : decode cX1_unitOf 47 = .ok (.aload_n 0, 1) := by decide +kernel
theorem dX1_unitOf_48 : decode cX1_unitOf 48 = .ok (.getfield 44, 3) := by decide +kernel
theorem dX1_unitOf_51 : decode cX1_unitOf 51 = .ok (.aload_n 0, 1) := by decide +kernel
theorem dX1_unitOf_52 : decode cX1_unitOf 52 = .ok (.getfield 50, 3) := by decide +kernel
theorem dX1_unitOf_55 : decode cX1_unitOf 55 = .ok (.iload_n 3, 1) := by decide +kernel
theorem dX1_unitOf_56 : decode cX1_unitOf 56 = .ok (.iaload, 1) := by decide +kernel
theorem dX1_unitOf_57 : decode cX1_unitOf 57 = .ok (.iaload, 1) := by decide +kernel
theorem dX1_unitOf_58 : decode cX1_unitOf 58 = .ok (.if_icmp .ge 13, 3) := by decide +kernel
theorem dX1_unitOf_61 : decode cX1_unitOf 61 = .ok (.aload_n 0, 1) := by decide +kernel
theorem dX1_unitOf_62 : decode cX1_unitOf 62 = .ok (.getfield 50, 3) := by decide +kernel
theorem dX1_unitOf_65 : decode cX1_unitOf 65 = .ok (.iload_n 3, 1) := by decide +kernel
theorem dX1_unitOf_66 : decode cX1_unitOf 66 = .ok (.iaload, 1) := by decide +kernel
theorem dX1_unitOf_67 : decode cX1_unitOf 67 = .ok (.istore_n 3, 1) := by decide +kernel
theorem dX1_unitOf_68 : decode cX1_unitOf 68 = .ok (.goto (-63), 3) := by decide +kernel
theorem dX1_unitOf_71 : decode cX1_unitOf 71 = .ok (.iload 4, 2) := by decide +kernel
theorem dX1_unitOf_73 : decode cX1_unitOf 73 = .ok (.aload_n 0, 1) := by decide +kernel
theorem dX1_unitOf_74 : decode cX1_unitOf 74 = .ok (.getfield 44, 3) := by decide +kernel
theorem dX1_unitOf_77 : decode cX1_unitOf 77 = .ok (.aload_n 0, 1) := by decide +kernel
theorem dX1_unitOf_78 : decode cX1_unitOf 78 = .ok (.getfield 50, 3) := by decide +kernel
theorem dX1_unitOf_81 : decode cX1_unitOf 81 = .ok (.iload_n 3, 1) := by decide +kernel
theorem dX1_unitOf_82 : decode cX1_unitOf 82 = .ok (.iaload, 1) := by decide +kernel
theorem dX1_unitOf_83 : decode cX1_unitOf 83 = .ok (.iaload, 1) := by decide +kernel
theorem dX1_unitOf_84 : decode cX1_unitOf 84 = .ok (.isub, 1) := by decide +kernel
theorem dX1_unitOf_85 : decode cX1_unitOf 85 = .ok (.istore 4, 2) := by decide +kernel
theorem dX1_unitOf_87 : decode cX1_unitOf 87 = .ok (.aload_n 0, 1) := by decide +kernel
theorem dX1_unitOf_88 : decode cX1_unitOf 88 = .ok (.getfield 53, 3) := by decide +kernel
theorem dX1_unitOf_91 : decode cX1_unitOf 91 = .ok (.iload_n 3, 1) := by decide +kernel
theorem dX1_unitOf_92 : decode cX1_unitOf 92 = .ok (.iaload, 1) := by decide +kernel
theorem dX1_unitOf_93 : decode cX1_unitOf 93 = .ok (.istore_n 3, 1) := by decide +kernel
theorem dX1_unitOf_94 : decode cX1_unitOf 94 = .ok (.goto (-89), 3) := by decide +kernel
theorem dX1_unitOf_97 : decode cX1_unitOf 97 = .ok (.aload_n 0, 1) := by decide +kernel
theorem dX1_unitOf_98 : decode cX1_unitOf 98 = .ok (.getfield 56, 3) := by decide +kernel
theorem dX1_unitOf_101 : decode cX1_unitOf 101 = .ok (.iload_n 3, 1) := by decide +kernel
theorem dX1_unitOf_102 : decode cX1_unitOf 102 = .ok (.laload, 1) := by decide +kernel
theorem dX1_unitOf_103 : decode cX1_unitOf 103 = .ok (.bipush 16, 2) := by decide +kernel
theorem dX1_unitOf_105 : decode cX1_unitOf 105 = .ok (.aload_n 0, 1) := by decide +kernel
theorem dX1_unitOf_106 : decode cX1_unitOf 106 = .ok (.getfield 44, 3) := by decide +kernel
theorem dX1_unitOf_109 : decode cX1_unitOf 109 = .ok (.iload_n 3, 1) := by decide +kernel
theorem dX1_unitOf_110 : decode cX1_unitOf 110 = .ok (.iaload, 1) := by decide +kernel
theorem dX1_unitOf_111 : decode cX1_unitOf 111 = .ok (.iconst 1, 1) := by decide +kernel
theorem dX1_unitOf_112 : decode cX1_unitOf 112 = .ok (.isub, 1) := by decide +kernel
theorem dX1_unitOf_113 : decode cX1_unitOf 113 = .ok (.iload 4, 2) := by decide +kernel
theorem dX1_unitOf_115 : decode cX1_unitOf 115 = .ok (.isub, 1) := by decide +kernel
theorem dX1_unitOf_116 : decode cX1_unitOf 116 = .ok (.imul, 1) := by decide +kernel
theorem dX1_unitOf_117 : decode cX1_unitOf 117 = .ok (.lshr, 1) := by decide +kernel
theorem dX1_unitOf_118 : decode cX1_unitOf 118 = .ok (.ldc2_w 125, 3) := by decide +kernel
theorem dX1_unitOf_121 : decode cX1_unitOf 121 = .ok (.land, 1) := by decide +kernel
theorem dX1_unitOf_122 : decode cX1_unitOf 122 = .ok (.l2i, 1) := by decide +kernel
theorem dX1_unitOf_123 : decode cX1_unitOf 123 = .ok (.ireturn, 1) := by decide +kernel
set_option maxRecDepth 20000 in
theorem ggX1_goOver_X1_make : GoodIn wsX1_goOver wsX1_make := goodIn_r _ [10, 1, 11, 2, 12, 13, 14, 15, 16, 17, 18, 19, 9, 20, 21, 22, 23, 24, 25, 26, 27, 28, 29, 30, 3, 4, 5, 31, 32, 33, 34, 35, 36, 37, 38, 39, 40, 41, 42, 43, 44, 45, 46, 47, 48, 49, 50, 51, 52, 53, 54, 55, 56, 57, 58, 59] (by decide +kernel) (by decide +kernel)
set_option maxRecDepth 20000 in
theorem gX1_goOver_X1_make : GoodIn wsX1_goOver (wsV RX1 106 RX1 yX1_make wsX1_make) := goodIn_app (goodIn_of _ (by decide +kernel)) ggX1_goOver_X1_make
theorem dX1_goOver_0 : decode cX1_goOver 0 = .ok (.aload_n 0, 1) := by decide +kernel
theorem dX1_goOver_1 : decode cX1_goOver 1 = .ok (.getfield 17, 3) := by decide +kernel
theorem dX1_goOver_4 : decode cX1_goOver 4 = .ok (.iload_n 1, 1) := by decide +kernel
theorem dX1_goOver_5 : decode cX1_goOver 5 = .ok (.iaload, 1) := by decide +kernel
theorem dX1_goOver_6 : decode cX1_goOver 6 = .ok (.iconst 3, 1) := by decide +kernel
theorem dX1_goOver_7 : decode cX1_goOver 7 = .ok (.if_icmp .eq 5, 3) := by decide +kernel
theorem dX1_goOver_10 : decode cX1_goOver 10 = .ok (.iconst 1, 1) := by decide +kernel
theorem dX1_goOver_11 : decode cX1_goOver 11 = .ok (.ireturn, 1) := by decide +kernel
theorem dX1_goOver_12 : decode cX1_goOver 12 = .ok (.aload_n 0, 1) := by decide +kernel
theorem dX1_goOver_13 : decode cX1_goOver 13 = .ok (.iconst 2, 1) := by decide +kernel
theorem dX1_goOver_14 : decode cX1_goOver 14 = .ok (.aload_n 0, 1) := by decide +kernel
theorem dX1_goOver_15 : decode cX1_goOver 15 = .ok (.getfield 44, 3) := by decide +kernel
theorem dX1_goOver_18 : decode cX1_goOver 18 = .ok (.iload_n 1, 1) := by decide +kernel
theorem dX1_goOver_19 : decode cX1_goOver 19 = .ok (.iaload, 1) := by decide +kernel
theorem dX1_goOver_20 : decode cX1_goOver 20 = .ok (.iconst 1, 1) := by decide +kernel
theorem dX1_goOver_21 : decode cX1_goOver 21 = .ok (.invokevirtual 106, 3) := by decide +kernel
theorem dX1_goOver_24 : decode cX1_goOver 24 = .ok (.istore_n 2, 1) := by decide +kernel
theorem dX1_goOver_25 : decode cX1_goOver 25 = .ok (.iload_n 2, 1) := by decide +kernel
theorem dX1_goOver_26 : decode cX1_goOver 26 = .ok (.ifCond .ne 5, 3) := by decide +kernel
theorem dX1_goOver_29 : decode cX1_goOver 29 = .ok (.iconst 0, 1) := by decide +kernel
theorem dX1_goOver_30 : decode cX1_goOver 30 = .ok (.ireturn, 1) := by decide +kernel
theorem dX1_goOver_31 : decode cX1_goOver 31 = .ok (.aload_n 0, 1) := by decide +kernel
theorem dX1_goOver_32 : decode cX1_goOver 32 = .ok (.getfield 50, 3) := by decide +kernel
theorem dX1_goOver_35 : decode cX1_goOver 35 = .ok (.iload_n 2, 1) := by decide +kernel
theorem dX1_goOver_36 : decode cX1_goOver 36 = .ok (.iload_n 1, 1) := by decide +kernel
theorem dX1_goOver_37 : decode cX1_goOver 37 = .ok (.iastore, 1) := by decide +kernel
theorem dX1_goOver_38 : decode cX1_goOver 38 = .ok (.aload_n 0, 1) := by decide +kernel
theorem dX1_goOver_39 : decode cX1_goOver 39 = .ok (.getfield 53, 3) := by decide +kernel
theorem dX1_goOver_42 : decode cX1_goOver 42 = .ok (.iload_n 2, 1) := by decide +kernel
theorem dX1_goOver_43 : decode cX1_goOver 43 = .ok (.iconst 0, 1) := by decide +kernel
theorem dX1_goOver_44 : decode cX1_goOver 44 = .ok (.iastore, 1) := by decide +kernel
theorem dX1_goOver_45 : decode cX1_goOver 45 = .ok (.aload_n 0, 1) := by decide +kernel
theorem dX1_goOver_46 : decode cX1_goOver 46 = .ok (.getfield 17, 3) := by decide +kernel
theorem dX1_goOver_49 : decode cX1_goOver 49 = .ok (.iload_n 1, 1) := by decide +kernel
theorem dX1_goOver_50 : decode cX1_goOver 50 = .ok (.iconst 4, 1) := by decide +kernel
theorem dX1_goOver_51 : decode cX1_goOver 51 = .ok (.iastore, 1) := by decide +kernel
theorem dX1_goOver_52 : decode cX1_goOver 52 = .ok (.aload_n 0, 1) := by decide +kernel
theorem dX1_goOver_53 : decode cX1_goOver 53 = .ok (.getfield 59, 3) := by decide +kernel
theorem dX1_goOver_56 : decode cX1_goOver 56 = .ok (.iload_n 1, 1) := by decide +kernel
theorem dX1_goOver_57 : decode cX1_goOver 57 = .ok (.iload_n 2, 1) := by decide +kernel
theorem dX1_goOver_58 : decode cX1_goOver 58 = .ok (.iastore, 1) := by decide +kernel
theorem dX1_goOver_59 : decode cX1_goOver 59 = .ok (.iconst 1, 1) := by decide +kernel
theorem dX1_goOver_60 : decode cX1_goOver 60 = .ok (.ireturn, 1) := by decide +kernel
theorem dX1_full_0 : decode cX1_full 0 = .ok (.aload_n 0, 1) := by decide +kernel
theorem dX1_full_1 : decode cX1_full 1 = .ok (.iload_n 1, 1) := by decide +kernel
theorem dX1_full_2 : decode cX1_full 2 = .ok (.ifCond .ne 7, 3) := by decide +kernel
theorem dX1_full_5 : decode cX1_full 5 = .ok (.iconst 2, 1) := by decide +kernel
theorem dX1_full_6 : decode cX1_full 6 = .ok (.goto 4, 3) := by decide +kernel
theorem dX1_full_9 : decode cX1_full 9 = .ok (.iconst 0, 1) := by decide +kernel
theorem dX1_full_10 : decode cX1_full 10 = .ok (.putfield 73, 3) := by decide +kernel
theorem dX1_full_13 : decode cX1_full 13 = .ok (.iload_n 1, 1) := by decide +kernel
theorem dX1_full_14 : decode cX1_full 14 = .ok (.ireturn, 1) := by decide +kernel
set_option maxRecDepth 20000 in
theorem ggX1_text_X1_isRoot : GoodIn wsX1_text wsX1_isRoot := goodIn_r _ [6, 7, 8, 5, 9] (by decide +kernel) (by decide +kernel)
set_option maxRecDepth 20000 in
theorem gX1_text_X1_isRoot : GoodIn wsX1_text (va_wsS RX1 98 yX1_isRoot wsX1_isRoot) := goodIn_app (goodIn_of _ (by decide +kernel)) ggX1_text_X1_isRoot
set_option maxRecDepth 20000 in
theorem ggX1_text_X1_in : GoodIn wsX1_text wsX1_in := goodIn_r _ [9] (by decide +kernel) (by decide +kernel)
set_option maxRecDepth 20000 in
theorem gX1_text_X1_in : GoodIn wsX1_text (va_wsS RX1 76 yX1_in wsX1_in) := goodIn_app (goodIn_of _ (by decide +kernel)) ggX1_text_X1_in
set_option maxRecDepth 20000 in
theorem ggX1_text_X1_says : GoodIn wsX1_text wsX1_says := goodIn_r _ [13, 14, 55, 56, 57, 58, 59, 60, 61, 62, 63, 64, 65, 66, 67, 68, 69, 70, 71, 72, 73, 74, 75] (by decide +kernel) (by decide +kernel)
set_option maxRecDepth 20000 in
theorem gX1_text_X1_says : GoodIn wsX1_text (wsV RX1 102 RX1 yX1_says wsX1_says) := goodIn_app (goodIn_of _ (by decide +kernel)) ggX1_text_X1_says
set_option maxRecDepth 20000 in
theorem ggX1_text_X1_make : GoodIn wsX1_text wsX1_make := goodIn_r _ [18, 19, 20, 21, 22, 23, 24, 25, 26, 27, 28, 29, 5, 30, 31, 32, 33, 34, 35, 36, 37, 2, 38, 39, 40, 41, 42, 43, 44, 45, 46, 47, 48, 49, 50, 55, 56, 57, 58, 59, 60, 61, 62, 63, 64, 65, 66, 67, 68, 69, 70, 71, 72, 73, 74, 75] (by decide +kernel) (by decide +kernel)
set_option maxRecDepth 20000 in
theorem gX1_text_X1_make : GoodIn wsX1_text (wsV RX1 106 RX1 yX1_make wsX1_make) := goodIn_app (goodIn_of _ (by decide +kernel)) ggX1_text_X1_make
set_option maxRecDepth 20000 in
theorem ggX1_text_X1_full : GoodIn wsX1_text wsX1_full := goodIn_r _ [54, 14, 55, 56, 57, 58, 59, 60, 61, 62, 63, 64, 65, 66, 67, 68, 69, 70, 71, 72, 73, 74, 75] (by decide +kernel) (by decide +kernel)
set_option maxRecDepth 20000 in
theorem gX1_text_X1_full : GoodIn wsX1_text (wsV RX1 127 RX1 yX1_full wsX1_full) := goodIn_app (goodIn_of _ (by decide +kernel)) ggX1_text_X1_full
theorem dX1_text_0 : decode cX1_text 0 = .ok (.aload_n 0, 1) := by decide +kernel
theorem dX1_text_1 : decode cX1_text 1 = .ok (.iload_n 1, 1) := by decide +kernel
theorem dX1_text_2 : decode cX1_text 2 = .ok (.invokestatic 98, 3) := by decide +kernel
theorem dX1_text_5 : decode cX1_text 5 = .ok (.ifCond .eq 17, 3) := by decide +kernel
theorem dX1_text_8 : decode cX1_text 8 = .ok (.iload 4, 2) := by decide +kernel
theorem dX1_text_10 : decode cX1_text 10 = .ok (.iconst 0, 1) := by decide +kernel
theorem dX1_text_11 : decode cX1_text 11 = .ok (.iconst 4, 1) := by decide +kernel
theorem dX1_text_12 : decode cX1_text 12 = .ok (.invokestatic 76, 3) := by decide +kernel
theorem dX1_text_15 : decode cX1_text 15 = .ok (.ifCond .eq 7, 3) := by decide +kernel
theorem dX1_text_18 : decode cX1_text 18 = .ok (.iconst 1, 1) := by decide +kernel
theorem dX1_text_19 : decode cX1_text 19 = .ok (.goto 4, 3) := by decide +kernel
theorem dX1_text_22 : decode cX1_text 22 = .ok (.iconst 0, 1) := by decide +kernel
theorem dX1_text_23 : decode cX1_text 23 = .ok (.invokevirtual 102, 3) := by decide +kernel
theorem dX1_text_26 : decode cX1_text 26 = .ok (.ifCond .ne 4, 3) := by decide +kernel
theorem dX1_text_29 : decode cX1_text 29 = .ok (.return_, 1) := by decide +kernel
theorem dX1_text_30 : decode cX1_text 30 = .ok (.aload_n 0, 1) := by decide +kernel
theorem dX1_text_31 : decode cX1_text 31 = .ok (.aload_n 0, 1) := by decide +kernel
theorem dX1_text_32 : decode cX1_text 32 = .ok (.iconst 2, 1) := by decide +kernel
theorem dX1_text_33 : decode cX1_text 33 = .ok (.iload 4, 2) := by decide +kernel
theorem dX1_text_35 : decode cX1_text 35 = .ok (.iconst 0, 1) := by decide +kernel
theorem dX1_text_36 : decode cX1_text 36 = .ok (.invokevirtual 106, 3) := by decide +kernel
theorem dX1_text_39 : decode cX1_text 39 = .ok (.invokevirtual 127, 3) := by decide +kernel
theorem dX1_text_42 : decode cX1_text 42 = .ok (.istore 5, 2) := by decide +kernel
theorem dX1_text_44 : decode cX1_text 44 = .ok (.iload 5, 2) := by decide +kernel
theorem dX1_text_46 : decode cX1_text 46 = .ok (.ifCond .ne 4, 3) := by decide +kernel
theorem dX1_text_49 : decode cX1_text 49 = .ok (.return_, 1) := by decide +kernel
theorem dX1_text_50 : decode cX1_text 50 = .ok (.aload_n 0, 1) := by decide +kernel
theorem dX1_text_51 : decode cX1_text 51 = .ok (.getfield 56, 3) := by decide +kernel
theorem dX1_text_54 : decode cX1_text 54 = .ok (.iload 5, 2) := by decide +kernel
theorem dX1_text_56 : decode cX1_text 56 = .ok (.lload_n 2, 1) := by decide +kernel
theorem dX1_text_57 : decode cX1_text 57 = .ok (.lastore, 1) := by decide +kernel
theorem dX1_text_58 : decode cX1_text 58 = .ok (.aload_n 0, 1) := by decide +kernel
theorem dX1_text_59 : decode cX1_text 59 = .ok (.getfield 9, 3) := by decide +kernel
theorem dX1_text_62 : decode cX1_text 62 = .ok (.iload_n 1, 1) := by decide +kernel
theorem dX1_text_63 : decode cX1_text 63 = .ok (.iload 5, 2) := by decide +kernel
theorem dX1_text_65 : decode cX1_text 65 = .ok (.iastore, 1) := by decide +kernel
theorem dX1_text_66 : decode cX1_text 66 = .ok (.return_, 1) := by decide +kernel
set_option maxRecDepth 20000 in
theorem ggX1_join_X1_isRoot : GoodIn wsX1_join wsX1_isRoot := goodIn_r _ [8, 9, 10, 7, 11] (by decide +kernel) (by decide +kernel)
set_option maxRecDepth 20000 in
theorem gX1_join_X1_isRoot : GoodIn wsX1_join (va_wsS RX1 98 yX1_isRoot wsX1_isRoot) := goodIn_app (goodIn_of _ (by decide +kernel)) ggX1_join_X1_isRoot
set_option maxRecDepth 20000 in
theorem ggX1_join_X1_isText : GoodIn wsX1_join wsX1_isText := goodIn_r _ [15, 16, 1, 5, 6, 7, 8, 9, 10, 11, 58, 59, 60, 61, 62, 63, 64, 65, 66, 67, 68, 69, 70, 71, 72, 73, 74, 75, 76, 77, 78] (by decide +kernel) (by decide +kernel)
set_option maxRecDepth 20000 in
theorem gX1_join_X1_isText : GoodIn wsX1_join (wsV RX1 130 RX1 yX1_isText wsX1_isText) := goodIn_app (goodIn_of _ (by decide +kernel)) ggX1_join_X1_isText
set_option maxRecDepth 20000 in
theorem ggX1_join_X1_says : GoodIn wsX1_join wsX1_says := goodIn_r _ [20, 21, 58, 59, 60, 61, 62, 63, 64, 65, 66, 67, 68, 69, 70, 71, 72, 73, 74, 75, 76, 77, 78] (by decide +kernel) (by decide +kernel)
set_option maxRecDepth 20000 in
theorem gX1_join_X1_says : GoodIn wsX1_join (wsV RX1 102 RX1 yX1_says wsX1_says) := goodIn_app (goodIn_of _ (by decide +kernel)) ggX1_join_X1_says
set_option maxRecDepth 20000 in
theorem ggX1_join_X1_make : GoodIn wsX1_join wsX1_make := goodIn_r _ [25, 16, 26, 2, 27, 28, 29, 30, 31, 32, 33, 34, 7, 35, 36, 37, 38, 39, 40, 41, 42, 1, 43, 44, 3, 4, 45, 46, 47, 48, 49, 50, 51, 52, 53, 58, 59, 60, 61, 62, 63, 64, 65, 66, 67, 68, 69, 70, 71, 72, 73, 74, 75, 76, 77, 78] (by decide +kernel) (by decide +kernel)
set_option maxRecDepth 20000 in
theorem gX1_join_X1_make : GoodIn wsX1_join (wsV RX1 106 RX1 yX1_make wsX1_make) := goodIn_app (goodIn_of _ (by decide +kernel)) ggX1_join_X1_make
set_option maxRecDepth 20000 in
theorem ggX1_join_X1_full : GoodIn wsX1_join wsX1_full := goodIn_r _ [57, 21, 58, 59, 60, 61, 62, 63, 64, 65, 66, 67, 68, 69, 70, 71, 72, 73, 74, 75, 76, 77, 78] (by decide +kernel) (by decide +kernel)
set_option maxRecDepth 20000 in
theorem gX1_join_X1_full : GoodIn wsX1_join (wsV RX1 127 RX1 yX1_full wsX1_full) := goodIn_app (goodIn_of _ (by decide +kernel)) ggX1_join_X1_full
theorem dX1_join_0 : decode cX1_join 0 = .ok (.aload_n 0, 1) := by decide +kernel
theorem dX1_join_1 : decode cX1_join 1 = .ok (.iload_n 1, 1) := by decide +kernel
theorem dX1_join_2 : decode cX1_join 2 = .ok (.invokestatic 98, 3) := by decide +kernel
theorem dX1_join_5 : decode cX1_join 5 = .ok (.ifCond .eq 23, 3) := by decide +kernel
theorem dX1_join_8 : decode cX1_join 8 = .ok (.aload_n 0, 1) := by decide +kernel
theorem dX1_join_9 : decode cX1_join 9 = .ok (.iload_n 2, 1) := by decide +kernel
theorem dX1_join_10 : decode cX1_join 10 = .ok (.invokevirtual 130, 3) := by decide +kernel
theorem dX1_join_13 : decode cX1_join 13 = .ok (.ifCond .eq 15, 3) := by decide +kernel
theorem dX1_join_16 : decode cX1_join 16 = .ok (.aload_n 0, 1) := by decide +kernel
theorem dX1_join_17 : decode cX1_join 17 = .ok (.iload_n 3, 1) := by decide +kernel
theorem dX1_join_18 : decode cX1_join 18 = .ok (.invokevirtual 130, 3) := by decide +kernel
theorem dX1_join_21 : decode cX1_join 21 = .ok (.ifCond .eq 7, 3) := by decide +kernel
theorem dX1_join_24 : decode cX1_join 24 = .ok (.iconst 1, 1) := by decide +kernel
theorem dX1_join_25 : decode cX1_join 25 = .ok (.goto 4, 3) := by decide +kernel
theorem dX1_join_28 : decode cX1_join 28 = .ok (.iconst 0, 1) := by decide +kernel
theorem dX1_join_29 : decode cX1_join 29 = .ok (.invokevirtual 102, 3) := by decide +kernel
theorem dX1_join_32 : decode cX1_join 32 = .ok (.ifCond .ne 4, 3) := by decide +kernel
theorem dX1_join_35 : decode cX1_join 35 = .ok (.return_, 1) := by decide +kernel
theorem dX1_join_36 : decode cX1_join 36 = .ok (.aload_n 0, 1) := by decide +kernel
theorem dX1_join_37 : decode cX1_join 37 = .ok (.getfield 9, 3) := by decide +kernel
theorem dX1_join_40 : decode cX1_join 40 = .ok (.iload_n 2, 1) := by decide +kernel
theorem dX1_join_41 : decode cX1_join 41 = .ok (.iaload, 1) := by decide +kernel
theorem dX1_join_42 : decode cX1_join 42 = .ok (.istore 4, 2) := by decide +kernel
theorem dX1_join_44 : decode cX1_join 44 = .ok (.aload_n 0, 1) := by decide +kernel
theorem dX1_join_45 : decode cX1_join 45 = .ok (.getfield 9, 3) := by decide +kernel
theorem dX1_join_48 : decode cX1_join 48 = .ok (.iload_n 3, 1) := by decide +kernel
theorem dX1_join_49 : decode cX1_join 49 = .ok (.iaload, 1) := by decide +kernel
theorem dX1_join_50 : decode cX1_join 50 = .ok (.istore 5, 2) := by decide +kernel
theorem dX1_join_52 : decode cX1_join 52 = .ok (.aload_n 0, 1) := by decide +kernel
theorem dX1_join_53 : decode cX1_join 53 = .ok (.getfield 44, 3) := by decide +kernel
theorem dX1_join_56 : decode cX1_join 56 = .ok (.iload 4, 2) := by decide +kernel
theorem dX1_join_58 : decode cX1_join 58 = .ok (.iaload, 1) := by decide +kernel
theorem dX1_join_59 : decode cX1_join 59 = .ok (.aload_n 0, 1) := by decide +kernel
theorem dX1_join_60 : decode cX1_join 60 = .ok (.getfield 44, 3) := by decide +kernel
theorem dX1_join_63 : decode cX1_join 63 = .ok (.iload 5, 2) := by decide +kernel
theorem dX1_join_65 : decode cX1_join 65 = .ok (.iaload, 1) := by decide +kernel
theorem dX1_join_66 : decode cX1_join 66 = .ok (.iadd, 1) := by decide +kernel
theorem dX1_join_67 : decode cX1_join 67 = .ok (.istore 6, 2) := by decide +kernel
theorem dX1_join_69 : decode cX1_join 69 = .ok (.aload_n 0, 1) := by decide +kernel
theorem dX1_join_70 : decode cX1_join 70 = .ok (.getfield 44, 3) := by decide +kernel
theorem dX1_join_73 : decode cX1_join 73 = .ok (.iload 4, 2) := by decide +kernel
theorem dX1_join_75 : decode cX1_join 75 = .ok (.iaload, 1) := by decide +kernel
theorem dX1_join_76 : decode cX1_join 76 = .ok (.ifCond .eq 13, 3) := by decide +kernel
theorem dX1_join_79 : decode cX1_join 79 = .ok (.aload_n 0, 1) := by decide +kernel
theorem dX1_join_80 : decode cX1_join 80 = .ok (.getfield 44, 3) := by decide +kernel
theorem dX1_join_83 : decode cX1_join 83 = .ok (.iload 5, 2) := by decide +kernel
theorem dX1_join_85 : decode cX1_join 85 = .ok (.iaload, 1) := by decide +kernel
theorem dX1_join_86 : decode cX1_join 86 = .ok (.ifCond .ne 27, 3) := by decide +kernel
theorem dX1_join_89 : decode cX1_join 89 = .ok (.aload_n 0, 1) := by decide +kernel
theorem dX1_join_90 : decode cX1_join 90 = .ok (.getfield 9, 3) := by decide +kernel
theorem dX1_join_93 : decode cX1_join 93 = .ok (.iload_n 1, 1) := by decide +kernel
theorem dX1_join_94 : decode cX1_join 94 = .ok (.aload_n 0, 1) := by decide +kernel
theorem dX1_join_95 : decode cX1_join 95 = .ok (.getfield 44, 3) := by decide +kernel
theorem dX1_join_98 : decode cX1_join 98 = .ok (.iload 4, 2) := by decide +kernel
theorem dX1_join_100 : decode cX1_join 100 = .ok (.iaload, 1) := by decide +kernel
theorem dX1_join_101 : decode cX1_join 101 = .ok (.ifCond .ne 8, 3) := by decide +kernel
theorem dX1_join_104 : decode cX1_join 104 = .ok (.iload 5, 2) := by decide +kernel
theorem dX1_join_106 : decode cX1_join 106 = .ok (.goto 5, 3) := by decide +kernel
theorem dX1_join_109 : decode cX1_join 109 = .ok (.iload 4, 2) := by decide +kernel
theorem dX1_join_111 : decode cX1_join 111 = .ok (.iastore, 1) := by decide +kernel
theorem dX1_join_112 : decode cX1_join 112 = .ok (.return_, 1) := by decide +kernel
theorem dX1_join_113 : decode cX1_join 113 = .ok (.iload 6, 2) := by decide +kernel
theorem dX1_join_115 : decode cX1_join 115 = .ok (.sipush 4000, 3) := by decide +kernel
theorem dX1_join_118 : decode cX1_join 118 = .ok (.if_icmp .le 7, 3) := by decide +kernel
theorem dX1_join_121 : decode cX1_join 121 = .ok (.iconst 0, 1) := by decide +kernel
theorem dX1_join_122 : decode cX1_join 122 = .ok (.goto 22, 3) := by decide +kernel
theorem dX1_join_125 : decode cX1_join 125 = .ok (.aload_n 0, 1) := by decide +kernel
theorem dX1_join_126 : decode cX1_join 126 = .ok (.iload 6, 2) := by decide +kernel
theorem dX1_join_128 : decode cX1_join 128 = .ok (.bipush 24, 2) := by decide +kernel
theorem dX1_join_130 : decode cX1_join 130 = .ok (.if_icmp .le 7, 3) := by decide +kernel
theorem dX1_join_133 : decode cX1_join 133 = .ok (.iconst 3, 1) := by decide +kernel
theorem dX1_join_134 : decode cX1_join 134 = .ok (.goto 4, 3) := by decide +kernel
theorem dX1_join_137 : decode cX1_join 137 = .ok (.iconst 2, 1) := by decide +kernel
theorem dX1_join_138 : decode cX1_join 138 = .ok (.iload 6, 2) := by decide +kernel
theorem dX1_join_140 : decode cX1_join 140 = .ok (.iconst 2, 1) := by decide +kernel
theorem dX1_join_141 : decode cX1_join 141 = .ok (.invokevirtual 106, 3) := by decide +kernel
theorem dX1_join_144 : decode cX1_join 144 = .ok (.istore 7, 2) := by decide +kernel
theorem dX1_join_146 : decode cX1_join 146 = .ok (.aload_n 0, 1) := by decide +kernel
theorem dX1_join_147 : decode cX1_join 147 = .ok (.iload 7, 2) := by decide +kernel
theorem dX1_join_149 : decode cX1_join 149 = .ok (.invokevirtual 127, 3) := by decide +kernel
theorem dX1_join_152 : decode cX1_join 152 = .ok (.ifCond .ne 4, 3) := by decide +kernel
theorem dX1_join_155 : decode cX1_join 155 = .ok (.return_, 1) := by decide +kernel
theorem dX1_join_156 : decode cX1_join 156 = .ok (.aload_n 0, 1) := by decide +kernel
theorem dX1_join_157 : decode cX1_join 157 = .ok (.getfield 50, 3) := by decide +kernel
theorem dX1_join_160 : decode cX1_join 160 = .ok (.iload 7, 2) := by decide +kernel
theorem dX1_join_162 : decode cX1_join 162 = .ok (.iload 4, 2) := by decide +kernel
theorem dX1_join_164 : decode cX1_join 164 = .ok (.iastore, 1) := by decide +kernel
theorem dX1_join_165 : decode cX1_join 165 = .ok (.aload_n 0, 1) := by decide +kernel
theorem dX1_join_166 : decode cX1_join 166 = .ok (.getfield 53, 3) := by decide +kernel
theorem dX1_join_169 : decode cX1_join 169 = .ok (.iload 7, 2) := by decide +kernel
theorem dX1_join_171 : decode cX1_join 171 = .ok (.iload 5, 2) := by decide +kernel
theorem dX1_join_173 : decode cX1_join 173 = .ok (.iastore, 1) := by decide +kernel
theorem dX1_join_174 : decode cX1_join 174 = .ok (.aload_n 0, 1) := by decide +kernel
theorem dX1_join_175 : decode cX1_join 175 = .ok (.getfield 9, 3) := by decide +kernel
theorem dX1_join_178 : decode cX1_join 178 = .ok (.iload_n 1, 1) := by decide +kernel
theorem dX1_join_179 : decode cX1_join 179 = .ok (.iload 7, 2) := by decide +kernel
theorem dX1_join_181 : decode cX1_join 181 = .ok (.iastore, 1) := by decide +kernel
theorem dX1_join_182 : decode cX1_join 182 = .ok (.return_, 1) := by decide +kernel
set_option maxRecDepth 20000 in
theorem ggX1_partOf_X1_goOver : GoodIn wsX1_partOf wsX1_goOver := goodIn_r _ [7, 8, 9, 1, 2, 10, 11, 12, 13, 6, 14, 15, 16, 17, 18, 19, 20, 21, 22, 23, 24, 25, 26, 27, 28, 29, 30, 31, 32, 33, 34, 35, 36, 37, 38, 39, 40, 41, 42, 43, 44, 45, 46, 47, 48, 49, 50, 51, 52, 53, 54, 55, 56, 57, 58, 59, 60, 61, 62, 63] (by decide +kernel) (by decide +kernel)
set_option maxRecDepth 20000 in
theorem gX1_partOf_X1_goOver : GoodIn wsX1_partOf (wsV RX1 133 RX1 yX1_goOver wsX1_goOver) := goodIn_app (goodIn_of _ (by decide +kernel)) ggX1_partOf_X1_goOver
set_option maxRecDepth 20000 in
theorem ggX1_partOf_X1_make : GoodIn wsX1_partOf wsX1_make := goodIn_r _ [14, 8, 15, 9, 16, 17, 18, 19, 20, 21, 22, 23, 6, 24, 25, 26, 27, 28, 29, 30, 31, 32, 33, 34, 1, 2, 10, 35, 36, 37, 38, 39, 40, 41, 42, 43, 44, 45, 46, 47, 48, 49, 50, 51, 52, 53, 54, 55, 56, 57, 58, 59, 60, 61, 62, 63] (by decide +kernel) (by decide +kernel)
set_option maxRecDepth 20000 in
theorem gX1_partOf_X1_make : GoodIn wsX1_partOf (wsV RX1 106 RX1 yX1_make wsX1_make) := goodIn_app (goodIn_of _ (by decide +kernel)) ggX1_partOf_X1_make
theorem dX1_partOf_0 : decode cX1_partOf 0 = .ok (.aload_n 0, 1) := by decide +kernel
theorem dX1_partOf_1 : decode cX1_partOf 1 = .ok (.iload_n 2, 1) := by decide +kernel
theorem dX1_partOf_2 : decode cX1_partOf 2 = .ok (.invokevirtual 133, 3) := by decide +kernel
theorem dX1_partOf_5 : decode cX1_partOf 5 = .ok (.ifCond .ne 5, 3) := by decide +kernel
theorem dX1_partOf_8 : decode cX1_partOf 8 = .ok (.iconst 0, 1) := by decide +kernel
theorem dX1_partOf_9 : decode cX1_partOf 9 = .ok (.ireturn, 1) := by decide +kernel
theorem dX1_partOf_10 : decode cX1_partOf 10 = .ok (.aload_n 0, 1) := by decide +kernel
theorem dX1_partOf_11 : decode cX1_partOf 11 = .ok (.iload_n 1, 1) := by decide +kernel
theorem dX1_partOf_12 : decode cX1_partOf 12 = .ok (.iload 4, 2) := by decide +kernel
theorem dX1_partOf_14 : decode cX1_partOf 14 = .ok (.iload_n 3, 1) := by decide +kernel
theorem dX1_partOf_15 : decode cX1_partOf 15 = .ok (.isub, 1) := by decide +kernel
theorem dX1_partOf_16 : decode cX1_partOf 16 = .ok (.iconst 1, 1) := by decide +kernel
theorem dX1_partOf_17 : decode cX1_partOf 17 = .ok (.invokevirtual 106, 3) := by decide +kernel
theorem dX1_partOf_20 : decode cX1_partOf 20 = .ok (.istore 5, 2) := by decide +kernel
theorem dX1_partOf_22 : decode cX1_partOf 22 = .ok (.aload_n 0, 1) := by decide +kernel
theorem dX1_partOf_23 : decode cX1_partOf 23 = .ok (.getfield 50, 3) := by decide +kernel
theorem dX1_partOf_26 : decode cX1_partOf 26 = .ok (.iload 5, 2) := by decide +kernel
theorem dX1_partOf_28 : decode cX1_partOf 28 = .ok (.iload_n 2, 1) := by decide +kernel
theorem dX1_partOf_29 : decode cX1_partOf 29 = .ok (.iastore, 1) := by decide +kernel
theorem dX1_partOf_30 : decode cX1_partOf 30 = .ok (.aload_n 0, 1) := by decide +kernel
theorem dX1_partOf_31 : decode cX1_partOf 31 = .ok (.getfield 53, 3) := by decide +kernel
theorem dX1_partOf_34 : decode cX1_partOf 34 = .ok (.iload 5, 2) := by decide +kernel
theorem dX1_partOf_36 : decode cX1_partOf 36 = .ok (.iload_n 3, 1) := by decide +kernel
theorem dX1_partOf_37 : decode cX1_partOf 37 = .ok (.iastore, 1) := by decide +kernel
theorem dX1_partOf_38 : decode cX1_partOf 38 = .ok (.iload 5, 2) := by decide +kernel
theorem dX1_partOf_40 : decode cX1_partOf 40 = .ok (.ireturn, 1) := by decide +kernel
set_option maxRecDepth 20000 in
theorem ggX1_part_X1_isRoot : GoodIn wsX1_part wsX1_isRoot := goodIn_r _ [6, 7, 8, 5, 9] (by decide +kernel) (by decide +kernel)
set_option maxRecDepth 20000 in
theorem gX1_part_X1_isRoot : GoodIn wsX1_part (va_wsS RX1 98 yX1_isRoot wsX1_isRoot) := goodIn_app (goodIn_of _ (by decide +kernel)) ggX1_part_X1_isRoot
set_option maxRecDepth 20000 in
theorem ggX1_part_X1_isText : GoodIn wsX1_part wsX1_isText := goodIn_r _ [13, 14, 2, 3, 4, 5, 6, 7, 8, 9, 66, 67, 68, 69, 70, 71, 72, 73, 74, 75, 76, 77, 78, 79, 80, 81, 82, 83, 84, 85, 86] (by decide +kernel) (by decide +kernel)
set_option maxRecDepth 20000 in
theorem gX1_part_X1_isText : GoodIn wsX1_part (wsV RX1 130 RX1 yX1_isText wsX1_isText) := goodIn_app (goodIn_of _ (by decide +kernel)) ggX1_part_X1_isText
set_option maxRecDepth 20000 in
theorem ggX1_part_X1_says : GoodIn wsX1_part wsX1_says := goodIn_r _ [18, 19, 66, 67, 68, 69, 70, 71, 72, 73, 74, 75, 76, 77, 78, 79, 80, 81, 82, 83, 84, 85, 86] (by decide +kernel) (by decide +kernel)
set_option maxRecDepth 20000 in
theorem gX1_part_X1_says : GoodIn wsX1_part (wsV RX1 102 RX1 yX1_says wsX1_says) := goodIn_app (goodIn_of _ (by decide +kernel)) ggX1_part_X1_says
set_option maxRecDepth 20000 in
theorem ggX1_part_X1_partOf : GoodIn wsX1_part wsX1_partOf := goodIn_r _ [23, 24, 25, 26, 27, 28, 5, 29, 14, 1, 30, 31, 32, 33, 34, 35, 36, 37, 38, 39, 40, 41, 42, 43, 44, 45, 46, 47, 48, 49, 50, 51, 2, 52, 53, 54, 55, 56, 57, 58, 59, 60, 61, 66, 67, 68, 69, 70, 71, 72, 73, 74, 75, 76, 77, 78, 79, 80, 81, 82, 83, 84, 85, 86] (by decide +kernel) (by decide +kernel)
set_option maxRecDepth 20000 in
theorem gX1_part_X1_partOf : GoodIn wsX1_part (wsV RX1 136 RX1 yX1_partOf wsX1_partOf) := goodIn_app (goodIn_of _ (by decide +kernel)) ggX1_part_X1_partOf
set_option maxRecDepth 20000 in
theorem ggX1_part_X1_full : GoodIn wsX1_part wsX1_full := goodIn_r _ [65, 19, 66, 67, 68, 69, 70, 71, 72, 73, 74, 75, 76, 77, 78, 79, 80, 81, 82, 83, 84, 85, 86] (by decide +kernel) (by decide +kernel)
set_option maxRecDepth 20000 in
theorem gX1_part_X1_full : GoodIn wsX1_part (wsV RX1 127 RX1 yX1_full wsX1_full) := goodIn_app (goodIn_of _ (by decide +kernel)) ggX1_part_X1_full
theorem dX1_part_0 : decode cX1_part 0 = .ok (.iload_n 1, 1) := by decide +kernel
theorem dX1_part_1 : decode cX1_part 1 = .ok (.invokestatic 98, 3) := by decide +kernel
theorem dX1_part_4 : decode cX1_part 4 = .ok (.ifCond .eq 15, 3) := by decide +kernel
theorem dX1_part_7 : decode cX1_part 7 = .ok (.aload_n 0, 1) := by decide +kernel
theorem dX1_part_8 : decode cX1_part 8 = .ok (.iload_n 2, 1) := by decide +kernel
theorem dX1_part_9 : decode cX1_part 9 = .ok (.invokevirtual 130, 3) := by decide +kernel
theorem dX1_part_12 : decode cX1_part 12 = .ok (.ifCond .eq 7, 3) := by decide +kernel
theorem dX1_part_15 : decode cX1_part 15 = .ok (.iconst 1, 1) := by decide +kernel
theorem dX1_part_16 : decode cX1_part 16 = .ok (.goto 4, 3) := by decide +kernel
theorem dX1_part_19 : decode cX1_part 19 = .ok (.iconst 0, 1) := by decide +kernel
theorem dX1_part_20 : decode cX1_part 20 = .ok (.istore 5, 2) := by decide +kernel
theorem dX1_part_22 : decode cX1_part 22 = .ok (.aload_n 0, 1) := by decide +kernel
theorem dX1_part_23 : decode cX1_part 23 = .ok (.iload 5, 2) := by decide +kernel
theorem dX1_part_25 : decode cX1_part 25 = .ok (.ifCond .eq 33, 3) := by decide +kernel
theorem dX1_part_28 : decode cX1_part 28 = .ok (.iload_n 3, 1) := by decide +kernel
theorem dX1_part_29 : decode cX1_part 29 = .ok (.ifCond .lt 29, 3) := by decide +kernel
theorem dX1_part_32 : decode cX1_part 32 = .ok (.iload_n 3, 1) := by decide +kernel
theorem dX1_part_33 : decode cX1_part 33 = .ok (.iload 4, 2) := by decide +kernel
theorem dX1_part_35 : decode cX1_part 35 = .ok (.if_icmp .gt 23, 3) := by decide +kernel
theorem dX1_part_38 : decode cX1_part 38 = .ok (.iload 4, 2) := by decide +kernel
theorem dX1_part_40 : decode cX1_part 40 = .ok (.aload_n 0, 1) := by decide +kernel
theorem dX1_part_41 : decode cX1_part 41 = .ok (.getfield 44, 3) := by decide +kernel
theorem dX1_part_44 : decode cX1_part 44 = .ok (.aload_n 0, 1) := by decide +kernel
theorem dX1_part_45 : decode cX1_part 45 = .ok (.getfield 9, 3) := by decide +kernel
theorem dX1_part_48 : decode cX1_part 48 = .ok (.iload_n 2, 1) := by decide +kernel
theorem dX1_part_49 : decode cX1_part 49 = .ok (.iaload, 1) := by decide +kernel
theorem dX1_part_50 : decode cX1_part 50 = .ok (.iaload, 1) := by decide +kernel
theorem dX1_part_51 : decode cX1_part 51 = .ok (.if_icmp .gt 7, 3) := by decide +kernel
theorem dX1_part_54 : decode cX1_part 54 = .ok (.iconst 1, 1) := by decide +kernel
theorem dX1_part_55 : decode cX1_part 55 = .ok (.goto 4, 3) := by decide +kernel
theorem dX1_part_58 : decode cX1_part 58 = .ok (.iconst 0, 1) := by decide +kernel
theorem dX1_part_59 : decode cX1_part 59 = .ok (.invokevirtual 102, 3) := by decide +kernel
theorem dX1_part_62 : decode cX1_part 62 = .ok (.ifCond .ne 4, 3) := by decide +kernel
theorem dX1_part_65 : decode cX1_part 65 = .ok (.return_, 1) := by decide +kernel
theorem dX1_part_66 : decode cX1_part 66 = .ok (.aload_n 0, 1) := by decide +kernel
theorem dX1_part_67 : decode cX1_part 67 = .ok (.aload_n 0, 1) := by decide +kernel
theorem dX1_part_68 : decode cX1_part 68 = .ok (.iconst 2, 1) := by decide +kernel
theorem dX1_part_69 : decode cX1_part 69 = .ok (.aload_n 0, 1) := by decide +kernel
theorem dX1_part_70 : decode cX1_part 70 = .ok (.getfield 9, 3) := by decide +kernel
theorem dX1_part_73 : decode cX1_part 73 = .ok (.iload_n 2, 1) := by decide +kernel
theorem dX1_part_74 : decode cX1_part 74 = .ok (.iaload, 1) := by decide +kernel
theorem dX1_part_75 : decode cX1_part 75 = .ok (.iload_n 3, 1) := by decide +kernel
theorem dX1_part_76 : decode cX1_part 76 = .ok (.iload 4, 2) := by decide +kernel
theorem dX1_part_78 : decode cX1_part 78 = .ok (.invokevirtual 136, 3) := by decide +kernel
theorem dX1_part_81 : decode cX1_part 81 = .ok (.invokevirtual 127, 3) := by decide +kernel
theorem dX1_part_84 : decode cX1_part 84 = .ok (.istore 6, 2) := by decide +kernel
theorem dX1_part_86 : decode cX1_part 86 = .ok (.iload 6, 2) := by decide +kernel
theorem dX1_part_88 : decode cX1_part 88 = .ok (.ifCond .le 11, 3) := by decide +kernel
theorem dX1_part_91 : decode cX1_part 91 = .ok (.aload_n 0, 1) := by decide +kernel
theorem dX1_part_92 : decode cX1_part 92 = .ok (.getfield 9, 3) := by decide +kernel
theorem dX1_part_95 : decode cX1_part 95 = .ok (.iload_n 1, 1) := by decide +kernel
theorem dX1_part_96 : decode cX1_part 96 = .ok (.iload 6, 2) := by decide +kernel
theorem dX1_part_98 : decode cX1_part 98 = .ok (.iastore, 1) := by decide +kernel
theorem dX1_part_99 : decode cX1_part 99 = .ok (.return_, 1) := by decide +kernel
set_option maxRecDepth 20000 in
theorem ggX1_length_X1_isText : GoodIn wsX1_length wsX1_isText := goodIn_r _ [7, 8, 2, 9, 10, 6, 11, 12, 13, 14, 20, 21, 22, 23, 24, 25, 26, 27, 28, 29, 30, 31, 32, 33, 34, 35, 36, 37, 38, 39, 40] (by decide +kernel) (by decide +kernel)
set_option maxRecDepth 20000 in
theorem gX1_length_X1_isText : GoodIn wsX1_length (wsV RX1 130 RX1 yX1_isText wsX1_isText) := goodIn_app (goodIn_of _ (by decide +kernel)) ggX1_length_X1_isText
set_option maxRecDepth 20000 in
theorem ggX1_length_X1_says : GoodIn wsX1_length wsX1_says := goodIn_r _ [18, 19, 20, 21, 22, 23, 24, 25, 26, 27, 28, 29, 30, 31, 32, 33, 34, 35, 36, 37, 38, 39, 40] (by decide +kernel) (by decide +kernel)
set_option maxRecDepth 20000 in
theorem gX1_length_X1_says : GoodIn wsX1_length (wsV RX1 102 RX1 yX1_says wsX1_says) := goodIn_app (goodIn_of _ (by decide +kernel)) ggX1_length_X1_says
theorem dX1_length_0 : decode cX1_length 0 = .ok (.aload_n 0, 1) := by decide +kernel
theorem dX1_length_1 : decode cX1_length 1 = .ok (.aload_n 0, 1) := by decide +kernel
theorem dX1_length_2 : decode cX1_length 2 = .ok (.iload_n 1, 1) := by decide +kernel
theorem dX1_length_3 : decode cX1_length 3 = .ok (.invokevirtual 130, 3) := by decide +kernel
theorem dX1_length_6 : decode cX1_length 6 = .ok (.invokevirtual 102, 3) := by decide +kernel
theorem dX1_length_9 : decode cX1_length 9 = .ok (.ifCond .eq 17, 3) := by decide +kernel
theorem dX1_length_12 : decode cX1_length 12 = .ok (.aload_n 0, 1) := by decide +kernel
theorem dX1_length_13 : decode cX1_length 13 = .ok (.getfield 44, 3) := by decide +kernel
theorem dX1_length_16 : decode cX1_length 16 = .ok (.aload_n 0, 1) := by decide +kernel
theorem dX1_length_17 : decode cX1_length 17 = .ok (.getfield 9, 3) := by decide +kernel
theorem dX1_length_20 : decode cX1_length 20 = .ok (.iload_n 1, 1) := by decide +kernel
theorem dX1_length_21 : decode cX1_length 21 = .ok (.iaload, 1) := by decide +kernel
theorem dX1_length_22 : decode cX1_length 22 = .ok (.iaload, 1) := by decide +kernel
theorem dX1_length_23 : decode cX1_length 23 = .ok (.goto 4, 3) := by decide +kernel
theorem dX1_length_26 : decode cX1_length 26 = .ok (.iconst 0, 1) := by decide +kernel
theorem dX1_length_27 : decode cX1_length 27 = .ok (.ireturn, 1) := by decide +kernel
set_option maxRecDepth 20000 in
theorem ggX1_unit_X1_isText : GoodIn wsX1_unit wsX1_isText := goodIn_r _ [8, 9, 2, 10, 11, 7, 12, 13, 14, 15, 64, 65, 66, 67, 68, 69, 70, 71, 72, 73, 74, 75, 76, 77, 78, 79, 80, 81, 82, 83, 84] (by decide +kernel) (by decide +kernel)
set_option maxRecDepth 20000 in
theorem gX1_unit_X1_isText : GoodIn wsX1_unit (wsV RX1 130 RX1 yX1_isText wsX1_isText) := goodIn_app (goodIn_of _ (by decide +kernel)) ggX1_unit_X1_isText
set_option maxRecDepth 20000 in
theorem ggX1_unit_X1_in : GoodIn wsX1_unit wsX1_in := goodIn_r _ [15] (by decide +kernel) (by decide +kernel)
set_option maxRecDepth 20000 in
theorem gX1_unit_X1_in : GoodIn wsX1_unit (va_wsS RX1 76 yX1_in wsX1_in) := goodIn_app (goodIn_of _ (by decide +kernel)) ggX1_unit_X1_in
set_option maxRecDepth 20000 in
theorem ggX1_unit_X1_says : GoodIn wsX1_unit wsX1_says := goodIn_r _ [19, 3, 64, 65, 66, 67, 68, 69, 70, 71, 72, 73, 74, 75, 76, 77, 78, 79, 80, 81, 82, 83, 84] (by decide +kernel) (by decide +kernel)
set_option maxRecDepth 20000 in
theorem gX1_unit_X1_says : GoodIn wsX1_unit (wsV RX1 102 RX1 yX1_says wsX1_says) := goodIn_app (goodIn_of _ (by decide +kernel)) ggX1_unit_X1_says
set_option maxRecDepth 20000 in
theorem ggX1_unit_X1_goOver : GoodIn wsX1_unit wsX1_goOver := goodIn_r _ [23, 9, 1, 24, 25, 26, 27, 28, 29, 7, 30, 31, 32, 33, 34, 35, 36, 37, 38, 39, 40, 41, 42, 43, 44, 45, 46, 47, 2, 48, 49, 50, 51, 52, 53, 54, 55, 56, 57, 64, 65, 66, 67, 68, 69, 70, 71, 72, 73, 74, 75, 76, 77, 78, 79, 80, 81, 82, 83, 84] (by decide +kernel) (by decide +kernel)
set_option maxRecDepth 20000 in
theorem gX1_unit_X1_goOver : GoodIn wsX1_unit (wsV RX1 133 RX1 yX1_goOver wsX1_goOver) := goodIn_app (goodIn_of _ (by decide +kernel)) ggX1_unit_X1_goOver
set_option maxRecDepth 20000 in
theorem ggX1_unit_X1_unitOf : GoodIn wsX1_unit wsX1_unitOf := goodIn_r _ [61, 32, 25, 24, 1, 62, 63, 64, 65, 66, 67, 68, 69, 70, 71, 72, 73, 74, 75, 76, 77, 78, 79, 80, 81, 82, 83, 84] (by decide +kernel) (by decide +kernel)
set_option maxRecDepth 20000 in
theorem gX1_unit_X1_unitOf : GoodIn wsX1_unit (wsV RX1 140 RX1 yX1_unitOf wsX1_unitOf) := goodIn_app (goodIn_of _ (by decide +kernel)) ggX1_unit_X1_unitOf
theorem dX1_unit_0 : decode cX1_unit 0 = .ok (.aload_n 0, 1) := by decide +kernel
theorem dX1_unit_1 : decode cX1_unit 1 = .ok (.iload_n 1, 1) := by decide +kernel
theorem dX1_unit_2 : decode cX1_unit 2 = .ok (.invokevirtual 130, 3) := by decide +kernel
theorem dX1_unit_5 : decode cX1_unit 5 = .ok (.istore_n 3, 1) := by decide +kernel
theorem dX1_unit_6 : decode cX1_unit 6 = .ok (.aload_n 0, 1) := by decide +kernel
theorem dX1_unit_7 : decode cX1_unit 7 = .ok (.iload_n 3, 1) := by decide +kernel
theorem dX1_unit_8 : decode cX1_unit 8 = .ok (.ifCond .eq 28, 3) := by decide +kernel
theorem dX1_unit_11 : decode cX1_unit 11 = .ok (.iload_n 2, 1) := by decide +kernel
theorem dX1_unit_12 : decode cX1_unit 12 = .ok (.iconst 0, 1) := by decide +kernel
theorem dX1_unit_13 : decode cX1_unit 13 = .ok (.aload_n 0, 1) := by decide +kernel
theorem dX1_unit_14 : decode cX1_unit 14 = .ok (.getfield 44, 3) := by decide +kernel
theorem dX1_unit_17 : decode cX1_unit 17 = .ok (.aload_n 0, 1) := by decide +kernel
theorem dX1_unit_18 : decode cX1_unit 18 = .ok (.getfield 9, 3) := by decide +kernel
theorem dX1_unit_21 : decode cX1_unit 21 = .ok (.iload_n 1, 1) := by decide +kernel
theorem dX1_unit_22 : decode cX1_unit 22 = .ok (.iaload, 1) := by decide +kernel
theorem dX1_unit_23 : decode cX1_unit 23 = .ok (.iaload, 1) := by decide +kernel
theorem dX1_unit_24 : decode cX1_unit 24 = .ok (.iconst 1, 1) := by decide +kernel
theorem dX1_unit_25 : decode cX1_unit 25 = .ok (.isub, 1) := by decide +kernel
theorem dX1_unit_26 : decode cX1_unit 26 = .ok (.invokestatic 76, 3) := by decide +kernel
theorem dX1_unit_29 : decode cX1_unit 29 = .ok (.ifCond .eq 7, 3) := by decide +kernel
theorem dX1_unit_32 : decode cX1_unit 32 = .ok (.iconst 1, 1) := by decide +kernel
theorem dX1_unit_33 : decode cX1_unit 33 = .ok (.goto 4, 3) := by decide +kernel
theorem dX1_unit_36 : decode cX1_unit 36 = .ok (.iconst 0, 1) := by decide +kernel
theorem dX1_unit_37 : decode cX1_unit 37 = .ok (.invokevirtual 102, 3) := by decide +kernel
theorem dX1_unit_40 : decode cX1_unit 40 = .ok (.ifCond .ne 5, 3) := by decide +kernel
theorem dX1_unit_43 : decode cX1_unit 43 = .ok (.iconst 0, 1) := by decide +kernel
theorem dX1_unit_44 : decode cX1_unit 44 = .ok (.ireturn, 1) := by decide +kernel
theorem dX1_unit_45 : decode cX1_unit 45 = .ok (.aload_n 0, 1) := by decide +kernel
theorem dX1_unit_46 : decode cX1_unit 46 = .ok (.aload_n 0, 1) := by decide +kernel
theorem dX1_unit_47 : decode cX1_unit 47 = .ok (.getfield 9, 3) := by decide +kernel
theorem dX1_unit_50 : decode cX1_unit 50 = .ok (.iload_n 1, 1) := by decide +kernel
theorem dX1_unit_51 : decode cX1_unit 51 = .ok (.iaload, 1) := by decide +kernel
theorem dX1_unit_52 : decode cX1_unit 52 = .ok (.invokevirtual 133, 3) := by decide +kernel
theorem dX1_unit_55 : decode cX1_unit 55 = .ok (.ifCond .ne 10, 3) := by decide +kernel
theorem dX1_unit_58 : decode cX1_unit 58 = .ok (.aload_n 0, 1) := by decide +kernel
theorem dX1_unit_59 : decode cX1_unit 59 = .ok (.iconst 2, 1) := by decide +kernel
theorem dX1_unit_60 : decode cX1_unit 60 = .ok (.putfield 73, 3) := by decide +kernel
theorem dX1_unit_63 : decode cX1_unit 63 = .ok (.iconst 0, 1) := by decide +kernel
theorem dX1_unit_64 : decode cX1_unit 64 = .ok (.ireturn, 1) := by decide +kernel
theorem dX1_unit_65 : decode cX1_unit 65 = .ok (.aload_n 0, 1) := by decide +kernel
theorem dX1_unit_66 : decode cX1_unit 66 = .ok (.aload_n 0, 1) := by decide +kernel
theorem dX1_unit_67 : decode cX1_unit 67 = .ok (.getfield 9, 3) := by decide +kernel
theorem dX1_unit_70 : decode cX1_unit 70 = .ok (.iload_n 1, 1) := by decide +kernel
theorem dX1_unit_71 : decode cX1_unit 71 = .ok (.iaload, 1) := by decide +kernel
theorem dX1_unit_72 : decode cX1_unit 72 = .ok (.iload_n 2, 1) := by decide +kernel
theorem dX1_unit_73 : decode cX1_unit 73 = .ok (.invokevirtual 140, 3) := by decide +kernel
theorem dX1_unit_76 : decode cX1_unit 76 = .ok (.ireturn, 1) := by decide +kernel
set_option maxRecDepth 20000 in
theorem ggX1_order_X1_unitOf : GoodIn wsX1_order wsX1_unitOf := goodIn_r _ [6, 7, 8, 9, 1, 10, 11, 12, 13, 14, 15, 16, 17, 18, 19, 20, 21, 22, 23, 24, 25, 26, 27, 28, 29, 30, 31, 32] (by decide +kernel) (by decide +kernel)
set_option maxRecDepth 20000 in
theorem gX1_order_X1_unitOf : GoodIn wsX1_order (wsV RX1 140 RX1 yX1_unitOf wsX1_unitOf) := goodIn_app (goodIn_of _ (by decide +kernel)) ggX1_order_X1_unitOf
theorem dX1_order_0 : decode cX1_order 0 = .ok (.aload_n 0, 1) := by decide +kernel
theorem dX1_order_1 : decode cX1_order 1 = .ok (.getfield 44, 3) := by decide +kernel
theorem dX1_order_4 : decode cX1_order 4 = .ok (.iload_n 1, 1) := by decide +kernel
theorem dX1_order_5 : decode cX1_order 5 = .ok (.iaload, 1) := by decide +kernel
theorem dX1_order_6 : decode cX1_order 6 = .ok (.aload_n 0, 1) := by decide +kernel
theorem dX1_order_7 : decode cX1_order 7 = .ok (.getfield 44, 3) := by decide +kernel
theorem dX1_order_10 : decode cX1_order 10 = .ok (.iload_n 2, 1) := by decide +kernel
theorem dX1_order_11 : decode cX1_order 11 = .ok (.iaload, 1) := by decide +kernel
theorem dX1_order_12 : decode cX1_order 12 = .ok (.if_icmp .ge 12, 3) := by decide +kernel
theorem dX1_order_15 : decode cX1_order 15 = .ok (.aload_n 0, 1) := by decide +kernel
theorem dX1_order_16 : decode cX1_order 16 = .ok (.getfield 44, 3) := by decide +kernel
theorem dX1_order_19 : decode cX1_order 19 = .ok (.iload_n 1, 1) := by decide +kernel
theorem dX1_order_20 : decode cX1_order 20 = .ok (.iaload, 1) := by decide +kernel
theorem dX1_order_21 : decode cX1_order 21 = .ok (.goto 9, 3) := by decide +kernel
theorem dX1_order_24 : decode cX1_order 24 = .ok (.aload_n 0, 1) := by decide +kernel
theorem dX1_order_25 : decode cX1_order 25 = .ok (.getfield 44, 3) := by decide +kernel
theorem dX1_order_28 : decode cX1_order 28 = .ok (.iload_n 2, 1) := by decide +kernel
theorem dX1_order_29 : decode cX1_order 29 = .ok (.iaload, 1) := by decide +kernel
theorem dX1_order_30 : decode cX1_order 30 = .ok (.istore_n 3, 1) := by decide +kernel
theorem dX1_order_31 : decode cX1_order 31 = .ok (.iconst 0, 1) := by decide +kernel
theorem dX1_order_32 : decode cX1_order 32 = .ok (.istore 4, 2) := by decide +kernel
theorem dX1_order_34 : decode cX1_order 34 = .ok (.iload 4, 2) := by decide +kernel
theorem dX1_order_36 : decode cX1_order 36 = .ok (.iload_n 3, 1) := by decide +kernel
theorem dX1_order_37 : decode cX1_order 37 = .ok (.if_icmp .ge 47, 3) := by decide +kernel
theorem dX1_order_40 : decode cX1_order 40 = .ok (.aload_n 0, 1) := by decide +kernel
theorem dX1_order_41 : decode cX1_order 41 = .ok (.iload_n 1, 1) := by decide +kernel
theorem dX1_order_42 : decode cX1_order 42 = .ok (.iload 4, 2) := by decide +kernel
theorem dX1_order_44 : decode cX1_order 44 = .ok (.invokevirtual 140, 3) := by decide +kernel
theorem dX1_order_47 : decode cX1_order 47 = .ok (.istore 5, 2) := by decide +kernel
theorem dX1_order_49 : decode cX1_order 49 = .ok (.aload_n 0, 1) := by decide +kernel
theorem dX1_order_50 : decode cX1_order 50 = .ok (.iload_n 2, 1) := by decide +kernel
theorem dX1_order_51 : decode cX1_order 51 = .ok (.iload 4, 2) := by decide +kernel
theorem dX1_order_53 : decode cX1_order 53 = .ok (.invokevirtual 140, 3) := by decide +kernel
theorem dX1_order_56 : decode cX1_order 56 = .ok (.istore 6, 2) := by decide +kernel
theorem dX1_order_58 : decode cX1_order 58 = .ok (.iload 5, 2) := by decide +kernel
theorem dX1_order_60 : decode cX1_order 60 = .ok (.iload 6, 2) := by decide +kernel
theorem dX1_order_62 : decode cX1_order 62 = .ok (.if_icmp .eq 16, 3) := by decide +kernel
theorem dX1_order_65 : decode cX1_order 65 = .ok (.iload 5, 2) := by decide +kernel
theorem dX1_order_67 : decode cX1_order 67 = .ok (.iload 6, 2) := by decide +kernel
theorem dX1_order_69 : decode cX1_order 69 = .ok (.if_icmp .ge 7, 3) := by decide +kernel
theorem dX1_order_72 : decode cX1_order 72 = .ok (.iconst (-1), 1) := by decide +kernel
theorem dX1_order_73 : decode cX1_order 73 = .ok (.goto 4, 3) := by decide +kernel
theorem dX1_order_76 : decode cX1_order 76 = .ok (.iconst 1, 1) := by decide +kernel
theorem dX1_order_77 : decode cX1_order 77 = .ok (.ireturn, 1) := by decide +kernel
theorem dX1_order_78 : decode cX1_order 78 = .ok (.iinc 4 1, 3) := by decide +kernel
theorem dX1_order_81 : decode cX1_order 81 = .ok (.goto (-47), 3) := by decide +kernel
theorem dX1_order_84 : decode cX1_order 84 = .ok (.aload_n 0, 1) := by decide +kernel
theorem dX1_order_85 : decode cX1_order 85 = .ok (.getfield 44, 3) := by decide +kernel
theorem dX1_order_88 : decode cX1_order 88 = .ok (.iload_n 1, 1) := by decide +kernel
theorem dX1_order_89 : decode cX1_order 89 = .ok (.iaload, 1) := by decide +kernel
theorem dX1_order_90 : decode cX1_order 90 = .ok (.aload_n 0, 1) := by decide +kernel
theorem dX1_order_91 : decode cX1_order 91 = .ok (.getfield 44, 3) := by decide +kernel
theorem dX1_order_94 : decode cX1_order 94 = .ok (.iload_n 2, 1) := by decide +kernel
theorem dX1_order_95 : decode cX1_order 95 = .ok (.iaload, 1) := by decide +kernel
theorem dX1_order_96 : decode cX1_order 96 = .ok (.if_icmp .ne 7, 3) := by decide +kernel
theorem dX1_order_99 : decode cX1_order 99 = .ok (.iconst 0, 1) := by decide +kernel
theorem dX1_order_100 : decode cX1_order 100 = .ok (.goto 23, 3) := by decide +kernel
theorem dX1_order_103 : decode cX1_order 103 = .ok (.aload_n 0, 1) := by decide +kernel
theorem dX1_order_104 : decode cX1_order 104 = .ok (.getfield 44, 3) := by decide +kernel
theorem dX1_order_107 : decode cX1_order 107 = .ok (.iload_n 1, 1) := by decide +kernel
theorem dX1_order_108 : decode cX1_order 108 = .ok (.iaload, 1) := by decide +kernel
theorem dX1_order_109 : decode cX1_order 109 = .ok (.aload_n 0, 1) := by decide +kernel
theorem dX1_order_110 : decode cX1_order 110 = .ok (.getfield 44, 3) := by decide +kernel
theorem dX1_order_113 : decode cX1_order 113 = .ok (.iload_n 2, 1) := by decide +kernel
theorem dX1_order_114 : decode cX1_order 114 = .ok (.iaload, 1) := by decide +kernel
theorem dX1_order_115 : decode cX1_order 115 = .ok (.if_icmp .ge 7, 3) := by decide +kernel
theorem dX1_order_118 : decode cX1_order 118 = .ok (.iconst (-1), 1) := by decide +kernel
theorem dX1_order_119 : decode cX1_order 119 = .ok (.goto 4, 3) := by decide +kernel
theorem dX1_order_122 : decode cX1_order 122 = .ok (.iconst 1, 1) := by decide +kernel
theorem dX1_order_123 : decode cX1_order 123 = .ok (.ireturn, 1) := by decide +kernel
set_option maxRecDepth 20000 in
theorem ggX1_compare_X1_isText : GoodIn wsX1_compare wsX1_isText := goodIn_r _ [7, 8, 1, 9, 10, 6, 11, 12, 13, 14, 68, 69, 70, 71, 72, 73, 74, 75, 76, 77, 78, 79, 80, 81, 82, 83, 84, 85, 86, 87, 88] (by decide +kernel) (by decide +kernel)
set_option maxRecDepth 20000 in
theorem gX1_compare_X1_isText : GoodIn wsX1_compare (wsV RX1 130 RX1 yX1_isText wsX1_isText) := goodIn_app (goodIn_of _ (by decide +kernel)) ggX1_compare_X1_isText
set_option maxRecDepth 20000 in
theorem ggX1_compare_X1_says : GoodIn wsX1_compare wsX1_says := goodIn_r _ [18, 2, 68, 69, 70, 71, 72, 73, 74, 75, 76, 77, 78, 79, 80, 81, 82, 83, 84, 85, 86, 87, 88] (by decide +kernel) (by decide +kernel)
set_option maxRecDepth 20000 in
theorem gX1_compare_X1_says : GoodIn wsX1_compare (wsV RX1 102 RX1 yX1_says wsX1_says) := goodIn_app (goodIn_of _ (by decide +kernel)) ggX1_compare_X1_says
set_option maxRecDepth 20000 in
theorem ggX1_compare_X1_goOver : GoodIn wsX1_compare wsX1_goOver := goodIn_r _ [22, 8, 23, 24, 25, 26, 27, 28, 29, 6, 30, 31, 32, 33, 34, 35, 36, 37, 38, 39, 40, 41, 42, 43, 44, 45, 46, 47, 1, 48, 49, 50, 51, 52, 53, 54, 55, 56, 57, 68, 69, 70, 71, 72, 73, 74, 75, 76, 77, 78, 79, 80, 81, 82, 83, 84, 85, 86, 87, 88] (by decide +kernel) (by decide +kernel)
set_option maxRecDepth 20000 in
theorem gX1_compare_X1_goOver : GoodIn wsX1_compare (wsV RX1 133 RX1 yX1_goOver wsX1_goOver) := goodIn_app (goodIn_of _ (by decide +kernel)) ggX1_compare_X1_goOver
set_option maxRecDepth 20000 in
theorem ggX1_compare_X1_order : GoodIn wsX1_compare wsX1_order := goodIn_r _ [61, 23, 62, 63, 64, 6, 65, 32, 25, 24, 66, 67, 68, 69, 70, 71, 72, 73, 74, 75, 76, 77, 78, 79, 80, 81, 82, 83, 84, 85, 86, 87, 88] (by decide +kernel) (by decide +kernel)
set_option maxRecDepth 20000 in
theorem gX1_compare_X1_order : GoodIn wsX1_compare (wsV RX1 144 RX1 yX1_order wsX1_order) := goodIn_app (goodIn_of _ (by decide +kernel)) ggX1_compare_X1_order
theorem dX1_compare_0 : decode cX1_compare 0 = .ok (.aload_n 0, 1) := by decide +kernel
theorem dX1_compare_1 : decode cX1_compare 1 = .ok (.aload_n 0, 1) := by decide +kernel
theorem dX1_compare_2 : decode cX1_compare 2 = .ok (.iload_n 1, 1) := by decide +kernel
theorem dX1_compare_3 : decode cX1_compare 3 = .ok (.invokevirtual 130, 3) := by decide +kernel
theorem dX1_compare_6 : decode cX1_compare 6 = .ok (.ifCond .eq 15, 3) := by decide +kernel
theorem dX1_compare_9 : decode cX1_compare 9 = .ok (.aload_n 0, 1) := by decide +kernel
theorem dX1_compare_10 : decode cX1_compare 10 = .ok (.iload_n 2, 1) := by decide +kernel
theorem dX1_compare_11 : decode cX1_compare 11 = .ok (.invokevirtual 130, 3) := by decide +kernel
theorem dX1_compare_14 : decode cX1_compare 14 = .ok (.ifCond .eq 7, 3) := by decide +kernel
theorem dX1_compare_17 : decode cX1_compare 17 = .ok (.iconst 1, 1) := by decide +kernel
theorem dX1_compare_18 : decode cX1_compare 18 = .ok (.goto 4, 3) := by decide +kernel
theorem dX1_compare_21 : decode cX1_compare 21 = .ok (.iconst 0, 1) := by decide +kernel
theorem dX1_compare_22 : decode cX1_compare 22 = .ok (.invokevirtual 102, 3) := by decide +kernel
theorem dX1_compare_25 : decode cX1_compare 25 = .ok (.ifCond .ne 5, 3) := by decide +kernel
theorem dX1_compare_28 : decode cX1_compare 28 = .ok (.iconst 0, 1) := by decide +kernel
theorem dX1_compare_29 : decode cX1_compare 29 = .ok (.ireturn, 1) := by decide +kernel
theorem dX1_compare_30 : decode cX1_compare 30 = .ok (.aload_n 0, 1) := by decide +kernel
theorem dX1_compare_31 : decode cX1_compare 31 = .ok (.aload_n 0, 1) := by decide +kernel
theorem dX1_compare_32 : decode cX1_compare 32 = .ok (.getfield 9, 3) := by decide +kernel
theorem dX1_compare_35 : decode cX1_compare 35 = .ok (.iload_n 1, 1) := by decide +kernel
theorem dX1_compare_36 : decode cX1_compare 36 = .ok (.iaload, 1) := by decide +kernel
theorem dX1_compare_37 : decode cX1_compare 37 = .ok (.invokevirtual 133, 3) := by decide +kernel
theorem dX1_compare_40 : decode cX1_compare 40 = .ok (.ifCond .eq 16, 3) := by decide +kernel
theorem dX1_compare_43 : decode cX1_compare 43 = .ok (.aload_n 0, 1) := by decide +kernel
theorem dX1_compare_44 : decode cX1_compare 44 = .ok (.aload_n 0, 1) := by decide +kernel
theorem dX1_compare_45 : decode cX1_compare 45 = .ok (.getfield 9, 3) := by decide +kernel
theorem dX1_compare_48 : decode cX1_compare 48 = .ok (.iload_n 2, 1) := by decide +kernel
theorem dX1_compare_49 : decode cX1_compare 49 = .ok (.iaload, 1) := by decide +kernel
theorem dX1_compare_50 : decode cX1_compare 50 = .ok (.invokevirtual 133, 3) := by decide +kernel
theorem dX1_compare_53 : decode cX1_compare 53 = .ok (.ifCond .ne 10, 3) := by decide +kernel
theorem dX1_compare_56 : decode cX1_compare 56 = .ok (.aload_n 0, 1) := by decide +kernel
theorem dX1_compare_57 : decode cX1_compare 57 = .ok (.iconst 2, 1) := by decide +kernel
theorem dX1_compare_58 : decode cX1_compare 58 = .ok (.putfield 73, 3) := by decide +kernel
theorem dX1_compare_61 : decode cX1_compare 61 = .ok (.iconst 0, 1) := by decide +kernel
theorem dX1_compare_62 : decode cX1_compare 62 = .ok (.ireturn, 1) := by decide +kernel
theorem dX1_compare_63 : decode cX1_compare 63 = .ok (.aload_n 0, 1) := by decide +kernel
theorem dX1_compare_64 : decode cX1_compare 64 = .ok (.aload_n 0, 1) := by decide +kernel
theorem dX1_compare_65 : decode cX1_compare 65 = .ok (.getfield 9, 3) := by decide +kernel
theorem dX1_compare_68 : decode cX1_compare 68 = .ok (.iload_n 1, 1) := by decide +kernel
theorem dX1_compare_69 : decode cX1_compare 69 = .ok (.iaload, 1) := by decide +kernel
theorem dX1_compare_70 : decode cX1_compare 70 = .ok (.aload_n 0, 1) := by decide +kernel
theorem dX1_compare_71 : decode cX1_compare 71 = .ok (.getfield 9, 3) := by decide +kernel
theorem dX1_compare_74 : decode cX1_compare 74 = .ok (.iload_n 2, 1) := by decide +kernel
theorem dX1_compare_75 : decode cX1_compare 75 = .ok (.iaload, 1) := by decide +kernel
theorem dX1_compare_76 : decode cX1_compare 76 = .ok (.invokevirtual 144, 3) := by decide +kernel
theorem dX1_compare_79 : decode cX1_compare 79 = .ok (.ireturn, 1) := by decide +kernel
set_option maxRecDepth 20000 in
theorem ggX1_find_X1_look : GoodIn wsX1_find wsX1_look := goodIn_r _ [9, 10, 1, 2, 11, 12, 13, 14, 15, 16, 3, 17, 18, 19, 20, 21, 22, 8, 23, 35, 36, 37, 38, 39, 40, 41, 42, 43, 44, 45, 46, 47, 48, 49, 50, 51, 52, 53, 54, 55] (by decide +kernel) (by decide +kernel)
set_option maxRecDepth 20000 in
theorem gX1_find_X1_look : GoodIn wsX1_find (wsV RX1 87 RX1 yX1_look wsX1_look) := goodIn_app (goodIn_of _ (by decide +kernel)) ggX1_find_X1_look
set_option maxRecDepth 20000 in
theorem ggX1_find_X1_order : GoodIn wsX1_find wsX1_order := goodIn_r _ [27, 4, 28, 29, 30, 8, 31, 32, 18, 17, 33, 34, 35, 36, 37, 38, 39, 40, 41, 42, 43, 44, 45, 46, 47, 48, 49, 50, 51, 52, 53, 54, 55] (by decide +kernel) (by decide +kernel)
set_option maxRecDepth 20000 in
theorem gX1_find_X1_order : GoodIn wsX1_find (wsV RX1 144 RX1 yX1_order wsX1_order) := goodIn_app (goodIn_of _ (by decide +kernel)) ggX1_find_X1_order
theorem dX1_find_0 : decode cX1_find 0 = .ok (.aload_n 0, 1) := by decide +kernel
theorem dX1_find_1 : decode cX1_find 1 = .ok (.invokevirtual 87, 3) := by decide +kernel
theorem dX1_find_4 : decode cX1_find 4 = .ok (.iconst 1, 1) := by decide +kernel
theorem dX1_find_5 : decode cX1_find 5 = .ok (.istore_n 2, 1) := by decide +kernel
theorem dX1_find_6 : decode cX1_find 6 = .ok (.iload_n 2, 1) := by decide +kernel
theorem dX1_find_7 : decode cX1_find 7 = .ok (.aload_n 0, 1) := by decide +kernel
theorem dX1_find_8 : decode cX1_find 8 = .ok (.getfield 13, 3) := by decide +kernel
theorem dX1_find_11 : decode cX1_find 11 = .ok (.if_icmp .ge 54, 3) := by decide +kernel
theorem dX1_find_14 : decode cX1_find 14 = .ok (.aload_n 0, 1) := by decide +kernel
theorem dX1_find_15 : decode cX1_find 15 = .ok (.getfield 62, 3) := by decide +kernel
theorem dX1_find_18 : decode cX1_find 18 = .ok (.iload_n 2, 1) := by decide +kernel
theorem dX1_find_19 : decode cX1_find 19 = .ok (.baload, 1) := by decide +kernel
theorem dX1_find_20 : decode cX1_find 20 = .ok (.ifCond .eq 39, 3) := by decide +kernel
theorem dX1_find_23 : decode cX1_find 23 = .ok (.aload_n 0, 1) := by decide +kernel
theorem dX1_find_24 : decode cX1_find 24 = .ok (.getfield 17, 3) := by decide +kernel
theorem dX1_find_27 : decode cX1_find 27 = .ok (.iload_n 2, 1) := by decide +kernel
theorem dX1_find_28 : decode cX1_find 28 = .ok (.iaload, 1) := by decide +kernel
theorem dX1_find_29 : decode cX1_find 29 = .ok (.iconst 5, 1) := by decide +kernel
theorem dX1_find_30 : decode cX1_find 30 = .ok (.if_icmp .ne 29, 3) := by decide +kernel
theorem dX1_find_33 : decode cX1_find 33 = .ok (.aload_n 0, 1) := by decide +kernel
theorem dX1_find_34 : decode cX1_find 34 = .ok (.getfield 44, 3) := by decide +kernel
theorem dX1_find_37 : decode cX1_find 37 = .ok (.iload_n 2, 1) := by decide +kernel
theorem dX1_find_38 : decode cX1_find 38 = .ok (.iaload, 1) := by decide +kernel
theorem dX1_find_39 : decode cX1_find 39 = .ok (.aload_n 0, 1) := by decide +kernel
theorem dX1_find_40 : decode cX1_find 40 = .ok (.getfield 44, 3) := by decide +kernel
theorem dX1_find_43 : decode cX1_find 43 = .ok (.iload_n 1, 1) := by decide +kernel
theorem dX1_find_44 : decode cX1_find 44 = .ok (.iaload, 1) := by decide +kernel
theorem dX1_find_45 : decode cX1_find 45 = .ok (.if_icmp .ne 14, 3) := by decide +kernel
theorem dX1_find_48 : decode cX1_find 48 = .ok (.aload_n 0, 1) := by decide +kernel
theorem dX1_find_49 : decode cX1_find 49 = .ok (.iload_n 2, 1) := by decide +kernel
theorem dX1_find_50 : decode cX1_find 50 = .ok (.iload_n 1, 1) := by decide +kernel
theorem dX1_find_51 : decode cX1_find 51 = .ok (.invokevirtual 144, 3) := by decide +kernel
theorem dX1_find_54 : decode cX1_find 54 = .ok (.ifCond .ne 5, 3) := by decide +kernel
theorem dX1_find_57 : decode cX1_find 57 = .ok (.iload_n 2, 1) := by decide +kernel
theorem dX1_find_58 : decode cX1_find 58 = .ok (.ireturn, 1) := by decide +kernel
theorem dX1_find_59 : decode cX1_find 59 = .ok (.iinc 2 1, 3) := by decide +kernel
theorem dX1_find_62 : decode cX1_find 62 = .ok (.goto (-56), 3) := by decide +kernel
theorem dX1_find_65 : decode cX1_find 65 = .ok (.iconst 0, 1) := by decide +kernel
theorem dX1_find_66 : decode cX1_find 66 = .ok (.ireturn, 1) := by decide +kernel
set_option maxRecDepth 20000 in
theorem ggX1_name_X1_isRoot : GoodIn wsX1_name wsX1_isRoot := goodIn_r _ [7, 8, 9, 6, 10] (by decide +kernel) (by decide +kernel)
set_option maxRecDepth 20000 in
theorem gX1_name_X1_isRoot : GoodIn wsX1_name (va_wsS RX1 98 yX1_isRoot wsX1_isRoot) := goodIn_app (goodIn_of _ (by decide +kernel)) ggX1_name_X1_isRoot
set_option maxRecDepth 20000 in
theorem ggX1_name_X1_isText : GoodIn wsX1_name wsX1_isText := goodIn_r _ [14, 2, 1, 4, 5, 6, 7, 8, 9, 10, 80, 81, 82, 83, 84, 85, 86, 87, 88, 89, 90, 91, 92, 93, 94, 95, 96, 97, 98, 99, 100] (by decide +kernel) (by decide +kernel)
set_option maxRecDepth 20000 in
theorem gX1_name_X1_isText : GoodIn wsX1_name (wsV RX1 130 RX1 yX1_isText wsX1_isText) := goodIn_app (goodIn_of _ (by decide +kernel)) ggX1_name_X1_isText
set_option maxRecDepth 20000 in
theorem ggX1_name_X1_says : GoodIn wsX1_name wsX1_says := goodIn_r _ [18, 19, 80, 81, 82, 83, 84, 85, 86, 87, 88, 89, 90, 91, 92, 93, 94, 95, 96, 97, 98, 99, 100] (by decide +kernel) (by decide +kernel)
set_option maxRecDepth 20000 in
theorem gX1_name_X1_says : GoodIn wsX1_name (wsV RX1 102 RX1 yX1_says wsX1_says) := goodIn_app (goodIn_of _ (by decide +kernel)) ggX1_name_X1_says
set_option maxRecDepth 20000 in
theorem ggX1_name_X1_goOver : GoodIn wsX1_name wsX1_goOver := goodIn_r _ [23, 2, 3, 24, 25, 26, 27, 28, 29, 6, 30, 31, 32, 33, 34, 35, 36, 37, 38, 39, 40, 41, 42, 43, 44, 45, 46, 47, 1, 48, 49, 50, 51, 52, 53, 54, 55, 56, 57, 80, 81, 82, 83, 84, 85, 86, 87, 88, 89, 90, 91, 92, 93, 94, 95, 96, 97, 98, 99, 100] (by decide +kernel) (by decide +kernel)
set_option maxRecDepth 20000 in
theorem gX1_name_X1_goOver : GoodIn wsX1_name (wsV RX1 133 RX1 yX1_goOver wsX1_goOver) := goodIn_app (goodIn_of _ (by decide +kernel)) ggX1_name_X1_goOver
set_option maxRecDepth 20000 in
theorem ggX1_name_X1_find : GoodIn wsX1_name wsX1_find := goodIn_r _ [61, 31, 47, 2, 3, 43, 44, 45, 6, 46, 41, 1, 42, 34, 48, 35, 49, 24, 25, 26, 50, 51, 52, 53, 62, 63, 64, 65, 66, 67, 68, 69, 32, 70, 71, 80, 81, 82, 83, 84, 85, 86, 87, 88, 89, 90, 91, 92, 93, 94, 95, 96, 97, 98, 99, 100] (by decide +kernel) (by decide +kernel)
set_option maxRecDepth 20000 in
theorem gX1_name_X1_find : GoodIn wsX1_name (wsV RX1 147 RX1 yX1_find wsX1_find) := goodIn_app (goodIn_of _ (by decide +kernel)) ggX1_name_X1_find
set_option maxRecDepth 20000 in
theorem ggX1_name_X1_partOf : GoodIn wsX1_name wsX1_partOf := goodIn_r _ [75, 24, 25, 20, 21, 22, 6, 23, 2, 3, 26, 27, 28, 29, 30, 31, 32, 33, 34, 35, 36, 37, 38, 39, 40, 41, 42, 43, 44, 45, 46, 47, 1, 48, 49, 50, 51, 52, 53, 54, 55, 56, 57, 80, 81, 82, 83, 84, 85, 86, 87, 88, 89, 90, 91, 92, 93, 94, 95, 96, 97, 98, 99, 100] (by decide +kernel) (by decide +kernel)
set_option maxRecDepth 20000 in
theorem gX1_name_X1_partOf : GoodIn wsX1_name (wsV RX1 136 RX1 yX1_partOf wsX1_partOf) := goodIn_app (goodIn_of _ (by decide +kernel)) ggX1_name_X1_partOf
set_option maxRecDepth 20000 in
theorem ggX1_name_X1_full : GoodIn wsX1_name wsX1_full := goodIn_r _ [79, 19, 80, 81, 82, 83, 84, 85, 86, 87, 88, 89, 90, 91, 92, 93, 94, 95, 96, 97, 98, 99, 100] (by decide +kernel) (by decide +kernel)
set_option maxRecDepth 20000 in
theorem gX1_name_X1_full : GoodIn wsX1_name (wsV RX1 127 RX1 yX1_full wsX1_full) := goodIn_app (goodIn_of _ (by decide +kernel)) ggX1_name_X1_full
theorem dX1_name_0 : decode cX1_name 0 = .ok (.aload_n 0, 1) := by decide +kernel
theorem dX1_name_1 : decode cX1_name 1 = .ok (.iload_n 1, 1) := by decide +kernel
theorem dX1_name_2 : decode cX1_name 2 = .ok (.invokestatic 98, 3) := by decide +kernel
theorem dX1_name_5 : decode cX1_name 5 = .ok (.ifCond .eq 15, 3) := by decide +kernel
theorem dX1_name_8 : decode cX1_name 8 = .ok (.aload_n 0, 1) := by decide +kernel
theorem dX1_name_9 : decode cX1_name 9 = .ok (.iload_n 2, 1) := by decide +kernel
theorem dX1_name_10 : decode cX1_name 10 = .ok (.invokevirtual 130, 3) := by decide +kernel
theorem dX1_name_13 : decode cX1_name 13 = .ok (.ifCond .eq 7, 3) := by decide +kernel
theorem dX1_name_16 : decode cX1_name 16 = .ok (.iconst 1, 1) := by decide +kernel
theorem dX1_name_17 : decode cX1_name 17 = .ok (.goto 4, 3) := by decide +kernel
theorem dX1_name_20 : decode cX1_name 20 = .ok (.iconst 0, 1) := by decide +kernel
theorem dX1_name_21 : decode cX1_name 21 = .ok (.invokevirtual 102, 3) := by decide +kernel
theorem dX1_name_24 : decode cX1_name 24 = .ok (.ifCond .ne 4, 3) := by decide +kernel
theorem dX1_name_27 : decode cX1_name 27 = .ok (.return_, 1) := by decide +kernel
theorem dX1_name_28 : decode cX1_name 28 = .ok (.aload_n 0, 1) := by decide +kernel
theorem dX1_name_29 : decode cX1_name 29 = .ok (.getfield 9, 3) := by decide +kernel
theorem dX1_name_32 : decode cX1_name 32 = .ok (.iload_n 2, 1) := by decide +kernel
theorem dX1_name_33 : decode cX1_name 33 = .ok (.iaload, 1) := by decide +kernel
theorem dX1_name_34 : decode cX1_name 34 = .ok (.istore_n 3, 1) := by decide +kernel
theorem dX1_name_35 : decode cX1_name 35 = .ok (.aload_n 0, 1) := by decide +kernel
theorem dX1_name_36 : decode cX1_name 36 = .ok (.getfield 17, 3) := by decide +kernel
theorem dX1_name_39 : decode cX1_name 39 = .ok (.iload_n 3, 1) := by decide +kernel
theorem dX1_name_40 : decode cX1_name 40 = .ok (.iaload, 1) := by decide +kernel
theorem dX1_name_41 : decode cX1_name 41 = .ok (.iconst 5, 1) := by decide +kernel
theorem dX1_name_42 : decode cX1_name 42 = .ok (.if_icmp .ne 11, 3) := by decide +kernel
theorem dX1_name_45 : decode cX1_name 45 = .ok (.aload_n 0, 1) := by decide +kernel
theorem dX1_name_46 : decode cX1_name 46 = .ok (.getfield 9, 3) := by decide +kernel
theorem dX1_name_49 : decode cX1_name 49 = .ok (.iload_n 1, 1) := by decide +kernel
theorem dX1_name_50 : decode cX1_name 50 = .ok (.iload_n 3, 1) := by decide +kernel
theorem dX1_name_51 : decode cX1_name 51 = .ok (.iastore, 1) := by decide +kernel
theorem dX1_name_52 : decode cX1_name 52 = .ok (.return_, 1) := by decide +kernel
theorem dX1_name_53 : decode cX1_name 53 = .ok (.aload_n 0, 1) := by decide +kernel
theorem dX1_name_54 : decode cX1_name 54 = .ok (.iload_n 3, 1) := by decide +kernel
theorem dX1_name_55 : decode cX1_name 55 = .ok (.invokevirtual 133, 3) := by decide +kernel
theorem dX1_name_58 : decode cX1_name 58 = .ok (.ifCond .eq 11, 3) := by decide +kernel
theorem dX1_name_61 : decode cX1_name 61 = .ok (.aload_n 0, 1) := by decide +kernel
theorem dX1_name_62 : decode cX1_name 62 = .ok (.iload_n 3, 1) := by decide +kernel
theorem dX1_name_63 : decode cX1_name 63 = .ok (.invokevirtual 147, 3) := by decide +kernel
theorem dX1_name_66 : decode cX1_name 66 = .ok (.goto 4, 3) := by decide +kernel
theorem dX1_name_69 : decode cX1_name 69 = .ok (.iconst 0, 1) := by decide +kernel
theorem dX1_name_70 : decode cX1_name 70 = .ok (.istore 4, 2) := by decide +kernel
theorem dX1_name_72 : decode cX1_name 72 = .ok (.iload 4, 2) := by decide +kernel
theorem dX1_name_74 : decode cX1_name 74 = .ok (.ifCond .ne 22, 3) := by decide +kernel
theorem dX1_name_77 : decode cX1_name 77 = .ok (.aload_n 0, 1) := by decide +kernel
theorem dX1_name_78 : decode cX1_name 78 = .ok (.aload_n 0, 1) := by decide +kernel
theorem dX1_name_79 : decode cX1_name 79 = .ok (.iconst 5, 1) := by decide +kernel
theorem dX1_name_80 : decode cX1_name 80 = .ok (.iload_n 3, 1) := by decide +kernel
theorem dX1_name_81 : decode cX1_name 81 = .ok (.iconst 0, 1) := by decide +kernel
theorem dX1_name_82 : decode cX1_name 82 = .ok (.aload_n 0, 1) := by decide +kernel
theorem dX1_name_83 : decode cX1_name 83 = .ok (.getfield 44, 3) := by decide +kernel
theorem dX1_name_86 : decode cX1_name 86 = .ok (.iload_n 3, 1) := by decide +kernel
theorem dX1_name_87 : decode cX1_name 87 = .ok (.iaload, 1) := by decide +kernel
theorem dX1_name_88 : decode cX1_name 88 = .ok (.invokevirtual 136, 3) := by decide +kernel
theorem dX1_name_91 : decode cX1_name 91 = .ok (.invokevirtual 127, 3) := by decide +kernel
theorem dX1_name_94 : decode cX1_name 94 = .ok (.istore 4, 2) := by decide +kernel
theorem dX1_name_96 : decode cX1_name 96 = .ok (.iload 4, 2) := by decide +kernel
theorem dX1_name_98 : decode cX1_name 98 = .ok (.ifCond .le 11, 3) := by decide +kernel
theorem dX1_name_101 : decode cX1_name 101 = .ok (.aload_n 0, 1) := by decide +kernel
theorem dX1_name_102 : decode cX1_name 102 = .ok (.getfield 9, 3) := by decide +kernel
theorem dX1_name_105 : decode cX1_name 105 = .ok (.iload_n 1, 1) := by decide +kernel
theorem dX1_name_106 : decode cX1_name 106 = .ok (.iload 4, 2) := by decide +kernel
theorem dX1_name_108 : decode cX1_name 108 = .ok (.iastore, 1) := by decide +kernel
theorem dX1_name_109 : decode cX1_name 109 = .ok (.return_, 1) := by decide +kernel
