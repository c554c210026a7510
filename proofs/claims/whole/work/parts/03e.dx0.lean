set_option maxRecDepth 20000 in
theorem ggX0_widen_J7_copyOf_59c91 : GoodIn wsX0_widen wsJ7_copyOf_59c91 := goodIn_r _ [10, 11, 12, 13, 14, 15, 16, 17, 18, 4, 5, 6, 19, 20, 21, 22] (by decide +kernel) (by decide +kernel)
set_option maxRecDepth 20000 in
theorem gX0_widen_J7_copyOf_59c91 : GoodIn wsX0_widen (va_wsS RX0 203 yJ7_copyOf_59c91 wsJ7_copyOf_59c91) := goodIn_app (goodIn_of _ (by decide +kernel)) ggX0_widen_J7_copyOf_59c91
theorem dX0_widen_0 : decode cX0_widen 0 = .ok (.aload_n 0, 1) := by decide +kernel
theorem dX0_widen_1 : decode cX0_widen 1 = .ok (.getfield 23, 3) := by decide +kernel
theorem dX0_widen_4 : decode cX0_widen 4 = .ok (.arraylength, 1) := by decide +kernel
theorem dX0_widen_5 : decode cX0_widen 5 = .ok (.istore_n 2, 1) := by decide +kernel
theorem dX0_widen_6 : decode cX0_widen 6 = .ok (.iconst 0, 1) := by decide +kernel
theorem dX0_widen_7 : decode cX0_widen 7 = .ok (.istore_n 3, 1) := by decide +kernel
theorem dX0_widen_8 : decode cX0_widen 8 = .ok (.iload_n 3, 1) := by decide +kernel
theorem dX0_widen_9 : decode cX0_widen 9 = .ok (.bipush 20, 2) := by decide +kernel
theorem dX0_widen_11 : decode cX0_widen 11 = .ok (.if_icmp .ge 28, 3) := by decide +kernel
theorem dX0_widen_14 : decode cX0_widen 14 = .ok (.iload_n 2, 1) := by decide +kernel
theorem dX0_widen_15 : decode cX0_widen 15 = .ok (.iconst 2, 1) := by decide +kernel
theorem dX0_widen_16 : decode cX0_widen 16 = .ok (.iload_n 1, 1) := by decide +kernel
theorem dX0_widen_17 : decode cX0_widen 17 = .ok (.imul, 1) := by decide +kernel
theorem dX0_widen_18 : decode cX0_widen 18 = .ok (.if_icmp .ge 21, 3) := by decide +kernel
theorem dX0_widen_21 : decode cX0_widen 21 = .ok (.iload_n 2, 1) := by decide +kernel
theorem dX0_widen_22 : decode cX0_widen 22 = .ok (.aload_n 0, 1) := by decide +kernel
theorem dX0_widen_23 : decode cX0_widen 23 = .ok (.getfield 19, 3) := by decide +kernel
theorem dX0_widen_26 : decode cX0_widen 26 = .ok (.if_icmp .ge 13, 3) := by decide +kernel
theorem dX0_widen_29 : decode cX0_widen 29 = .ok (.iload_n 2, 1) := by decide +kernel
theorem dX0_widen_30 : decode cX0_widen 30 = .ok (.iload_n 2, 1) := by decide +kernel
theorem dX0_widen_31 : decode cX0_widen 31 = .ok (.iadd, 1) := by decide +kernel
theorem dX0_widen_32 : decode cX0_widen 32 = .ok (.istore_n 2, 1) := by decide +kernel
theorem dX0_widen_33 : decode cX0_widen 33 = .ok (.iinc 3 1, 3) := by decide +kernel
theorem dX0_widen_36 : decode cX0_widen 36 = .ok (.goto (-28), 3) := by decide +kernel
theorem dX0_widen_39 : decode cX0_widen 39 = .ok (.iload_n 2, 1) := by decide +kernel
theorem dX0_widen_40 : decode cX0_widen 40 = .ok (.aload_n 0, 1) := by decide +kernel
theorem dX0_widen_41 : decode cX0_widen 41 = .ok (.getfield 23, 3) := by decide +kernel
theorem dX0_widen_44 : decode cX0_widen 44 = .ok (.arraylength, 1) := by decide +kernel
theorem dX0_widen_45 : decode cX0_widen 45 = .ok (.if_icmp .le 22, 3) := by decide +kernel
theorem dX0_widen_48 : decode cX0_widen 48 = .ok (.aload_n 0, 1) := by decide +kernel
theorem dX0_widen_49 : decode cX0_widen 49 = .ok (.aload_n 0, 1) := by decide +kernel
theorem dX0_widen_50 : decode cX0_widen 50 = .ok (.getfield 23, 3) := by decide +kernel
theorem dX0_widen_53 : decode cX0_widen 53 = .ok (.iload_n 2, 1) := by decide +kernel
theorem dX0_widen_54 : decode cX0_widen 54 = .ok (.aload_n 0, 1) := by decide +kernel
theorem dX0_widen_55 : decode cX0_widen 55 = .ok (.getfield 19, 3) := by decide +kernel
theorem dX0_widen_58 : decode cX0_widen 58 = .ok (.invokestatic 10, 3) := by decide +kernel
theorem dX0_widen_61 : decode cX0_widen 61 = .ok (.invokestatic 203, 3) := by decide +kernel
theorem dX0_widen_64 : decode cX0_widen 64 = .ok (.putfield 23, 3) := by decide +kernel
theorem dX0_widen_67 : decode cX0_widen 67 = .ok (.return_, 1) := by decide +kernel
set_option maxRecDepth 20000 in
theorem ggX0_slideTogether_X0_touchRoots : GoodIn wsX0_slideTogether wsX0_touchRoots := goodIn_r _ [12, 13, 14, 15, 16, 11, 17, 3, 2, 56, 57, 58, 59, 60, 61, 62, 63, 64, 65] (by decide +kernel) (by decide +kernel)
set_option maxRecDepth 20000 in
theorem gX0_slideTogether_X0_touchRoots : GoodIn wsX0_slideTogether (wsV RX0 219 RX0 yX0_touchRoots wsX0_touchRoots) := goodIn_app (goodIn_of _ (by decide +kernel)) ggX0_slideTogether_X0_touchRoots
set_option maxRecDepth 20000 in
theorem ggX0_slideTogether_X0_touchLeads : GoodIn wsX0_slideTogether wsX0_touchLeads := goodIn_r _ [21, 3, 22, 23, 24, 11, 25, 14, 15, 16, 17, 2, 26, 27, 28, 29, 30, 31, 32, 33, 56, 57, 58, 59, 60, 61, 62, 63, 64, 65] (by decide +kernel) (by decide +kernel)
set_option maxRecDepth 20000 in
theorem gX0_slideTogether_X0_touchLeads : GoodIn wsX0_slideTogether (wsV RX0 223 RX0 yX0_touchLeads wsX0_touchLeads) := goodIn_app (goodIn_of _ (by decide +kernel)) ggX0_slideTogether_X0_touchLeads
set_option maxRecDepth 20000 in
theorem ggX0_slideTogether_X0_planMoves : GoodIn wsX0_slideTogether wsX0_planMoves := goodIn_r _ [37, 1, 3, 4, 5, 6, 7, 38, 39, 40, 11, 41, 56, 57, 58, 59, 60, 61, 62, 63, 64, 65] (by decide +kernel) (by decide +kernel)
set_option maxRecDepth 20000 in
theorem gX0_slideTogether_X0_planMoves : GoodIn wsX0_slideTogether (wsV RX0 227 RX0 yX0_planMoves wsX0_planMoves) := goodIn_app (goodIn_of _ (by decide +kernel)) ggX0_slideTogether_X0_planMoves
set_option maxRecDepth 20000 in
theorem ggX0_slideTogether_X0_keepNames : GoodIn wsX0_slideTogether wsX0_keepNames := goodIn_r _ [45, 46, 3, 47, 56, 57, 58, 59, 60, 61, 62, 63, 64, 65] (by decide +kernel) (by decide +kernel)
set_option maxRecDepth 20000 in
theorem gX0_slideTogether_X0_keepNames : GoodIn wsX0_slideTogether (wsV RX0 231 RX0 yX0_keepNames wsX0_keepNames) := goodIn_app (goodIn_of _ (by decide +kernel)) ggX0_slideTogether_X0_keepNames
set_option maxRecDepth 20000 in
theorem ggX0_slideTogether_X0_sizeAt : GoodIn wsX0_slideTogether wsX0_sizeAt := goodIn_r _ [41, 3, 56, 57, 58, 59, 60, 61, 62, 63, 64, 65] (by decide +kernel) (by decide +kernel)
set_option maxRecDepth 20000 in
theorem gX0_slideTogether_X0_sizeAt : GoodIn wsX0_slideTogether (wsV RX0 181 RX0 yX0_sizeAt wsX0_sizeAt) := goodIn_app (goodIn_of _ (by decide +kernel)) ggX0_slideTogether_X0_sizeAt
set_option maxRecDepth 20000 in
theorem ggX0_slideTogether_X0_moveAll : GoodIn wsX0_slideTogether wsX0_moveAll := goodIn_r _ [51, 1, 3, 52, 53, 54, 55, 4, 5, 6, 7, 38, 39, 40, 11, 41, 56, 57, 58, 59, 60, 61, 62, 63, 64, 65] (by decide +kernel) (by decide +kernel)
set_option maxRecDepth 20000 in
theorem gX0_slideTogether_X0_moveAll : GoodIn wsX0_slideTogether (wsV RX0 234 RX0 yX0_moveAll wsX0_moveAll) := goodIn_app (goodIn_of _ (by decide +kernel)) ggX0_slideTogether_X0_moveAll
theorem dX0_slideTogether_0 : decode cX0_slideTogether 0 = .ok (.aload_n 0, 1) := by decide +kernel
theorem dX0_slideTogether_1 : decode cX0_slideTogether 1 = .ok (.iconst 0, 1) := by decide +kernel
theorem dX0_slideTogether_2 : decode cX0_slideTogether 2 = .ok (.invokevirtual 219, 3) := by decide +kernel
theorem dX0_slideTogether_5 : decode cX0_slideTogether 5 = .ok (.aload_n 0, 1) := by decide +kernel
theorem dX0_slideTogether_6 : decode cX0_slideTogether 6 = .ok (.getfield 27, 3) := by decide +kernel
theorem dX0_slideTogether_9 : decode cX0_slideTogether 9 = .ok (.istore_n 1, 1) := by decide +kernel
theorem dX0_slideTogether_10 : decode cX0_slideTogether 10 = .ok (.iload_n 1, 1) := by decide +kernel
theorem dX0_slideTogether_11 : decode cX0_slideTogether 11 = .ok (.ifCond .le 40, 3) := by decide +kernel
theorem dX0_slideTogether_14 : decode cX0_slideTogether 14 = .ok (.aload_n 0, 1) := by decide +kernel
theorem dX0_slideTogether_15 : decode cX0_slideTogether 15 = .ok (.getfield 48, 3) := by decide +kernel
theorem dX0_slideTogether_18 : decode cX0_slideTogether 18 = .ok (.iconst (-1), 1) := by decide +kernel
theorem dX0_slideTogether_19 : decode cX0_slideTogether 19 = .ok (.if_icmp .eq 32, 3) := by decide +kernel
theorem dX0_slideTogether_22 : decode cX0_slideTogether 22 = .ok (.aload_n 0, 1) := by decide +kernel
theorem dX0_slideTogether_23 : decode cX0_slideTogether 23 = .ok (.getfield 48, 3) := by decide +kernel
theorem dX0_slideTogether_26 : decode cX0_slideTogether 26 = .ok (.istore_n 2, 1) := by decide +kernel
theorem dX0_slideTogether_27 : decode cX0_slideTogether 27 = .ok (.aload_n 0, 1) := by decide +kernel
theorem dX0_slideTogether_28 : decode cX0_slideTogether 28 = .ok (.aload_n 0, 1) := by decide +kernel
theorem dX0_slideTogether_29 : decode cX0_slideTogether 29 = .ok (.getfield 23, 3) := by decide +kernel
theorem dX0_slideTogether_32 : decode cX0_slideTogether 32 = .ok (.iload_n 2, 1) := by decide +kernel
theorem dX0_slideTogether_33 : decode cX0_slideTogether 33 = .ok (.iconst 2, 1) := by decide +kernel
theorem dX0_slideTogether_34 : decode cX0_slideTogether 34 = .ok (.iadd, 1) := by decide +kernel
theorem dX0_slideTogether_35 : decode cX0_slideTogether 35 = .ok (.iaload, 1) := by decide +kernel
theorem dX0_slideTogether_36 : decode cX0_slideTogether 36 = .ok (.putfield 48, 3) := by decide +kernel
theorem dX0_slideTogether_39 : decode cX0_slideTogether 39 = .ok (.aload_n 0, 1) := by decide +kernel
theorem dX0_slideTogether_40 : decode cX0_slideTogether 40 = .ok (.iload_n 2, 1) := by decide +kernel
theorem dX0_slideTogether_41 : decode cX0_slideTogether 41 = .ok (.iconst 0, 1) := by decide +kernel
theorem dX0_slideTogether_42 : decode cX0_slideTogether 42 = .ok (.invokevirtual 223, 3) := by decide +kernel
theorem dX0_slideTogether_45 : decode cX0_slideTogether 45 = .ok (.iinc 1 (-1), 3) := by decide +kernel
theorem dX0_slideTogether_48 : decode cX0_slideTogether 48 = .ok (.goto (-38), 3) := by decide +kernel
theorem dX0_slideTogether_51 : decode cX0_slideTogether 51 = .ok (.aload_n 0, 1) := by decide +kernel
theorem dX0_slideTogether_52 : decode cX0_slideTogether 52 = .ok (.invokevirtual 227, 3) := by decide +kernel
theorem dX0_slideTogether_55 : decode cX0_slideTogether 55 = .ok (.istore_n 1, 1) := by decide +kernel
theorem dX0_slideTogether_56 : decode cX0_slideTogether 56 = .ok (.aload_n 0, 1) := by decide +kernel
theorem dX0_slideTogether_57 : decode cX0_slideTogether 57 = .ok (.invokevirtual 231, 3) := by decide +kernel
theorem dX0_slideTogether_60 : decode cX0_slideTogether 60 = .ok (.aload_n 0, 1) := by decide +kernel
theorem dX0_slideTogether_61 : decode cX0_slideTogether 61 = .ok (.iconst 1, 1) := by decide +kernel
theorem dX0_slideTogether_62 : decode cX0_slideTogether 62 = .ok (.invokevirtual 219, 3) := by decide +kernel
theorem dX0_slideTogether_65 : decode cX0_slideTogether 65 = .ok (.iconst 0, 1) := by decide +kernel
theorem dX0_slideTogether_66 : decode cX0_slideTogether 66 = .ok (.istore_n 2, 1) := by decide +kernel
theorem dX0_slideTogether_67 : decode cX0_slideTogether 67 = .ok (.iload_n 2, 1) := by decide +kernel
theorem dX0_slideTogether_68 : decode cX0_slideTogether 68 = .ok (.aload_n 0, 1) := by decide +kernel
theorem dX0_slideTogether_69 : decode cX0_slideTogether 69 = .ok (.getfield 27, 3) := by decide +kernel
theorem dX0_slideTogether_72 : decode cX0_slideTogether 72 = .ok (.if_icmp .ge 36, 3) := by decide +kernel
theorem dX0_slideTogether_75 : decode cX0_slideTogether 75 = .ok (.aload_n 0, 1) := by decide +kernel
theorem dX0_slideTogether_76 : decode cX0_slideTogether 76 = .ok (.getfield 23, 3) := by decide +kernel
theorem dX0_slideTogether_79 : decode cX0_slideTogether 79 = .ok (.iload_n 2, 1) := by decide +kernel
theorem dX0_slideTogether_80 : decode cX0_slideTogether 80 = .ok (.iconst 1, 1) := by decide +kernel
theorem dX0_slideTogether_81 : decode cX0_slideTogether 81 = .ok (.iadd, 1) := by decide +kernel
theorem dX0_slideTogether_82 : decode cX0_slideTogether 82 = .ok (.iaload, 1) := by decide +kernel
theorem dX0_slideTogether_83 : decode cX0_slideTogether 83 = .ok (.iconst (-1), 1) := by decide +kernel
theorem dX0_slideTogether_84 : decode cX0_slideTogether 84 = .ok (.if_icmp .eq 9, 3) := by decide +kernel
theorem dX0_slideTogether_87 : decode cX0_slideTogether 87 = .ok (.aload_n 0, 1) := by decide +kernel
theorem dX0_slideTogether_88 : decode cX0_slideTogether 88 = .ok (.iload_n 2, 1) := by decide +kernel
theorem dX0_slideTogether_89 : decode cX0_slideTogether 89 = .ok (.iconst 1, 1) := by decide +kernel
theorem dX0_slideTogether_90 : decode cX0_slideTogether 90 = .ok (.invokevirtual 223, 3) := by decide +kernel
theorem dX0_slideTogether_93 : decode cX0_slideTogether 93 = .ok (.iload_n 2, 1) := by decide +kernel
theorem dX0_slideTogether_94 : decode cX0_slideTogether 94 = .ok (.iconst 3, 1) := by decide +kernel
theorem dX0_slideTogether_95 : decode cX0_slideTogether 95 = .ok (.aload_n 0, 1) := by decide +kernel
theorem dX0_slideTogether_96 : decode cX0_slideTogether 96 = .ok (.iload_n 2, 1) := by decide +kernel
theorem dX0_slideTogether_97 : decode cX0_slideTogether 97 = .ok (.invokevirtual 181, 3) := by decide +kernel
theorem dX0_slideTogether_100 : decode cX0_slideTogether 100 = .ok (.invokestatic 16, 3) := by decide +kernel
theorem dX0_slideTogether_103 : decode cX0_slideTogether 103 = .ok (.iadd, 1) := by decide +kernel
theorem dX0_slideTogether_104 : decode cX0_slideTogether 104 = .ok (.istore_n 2, 1) := by decide +kernel
theorem dX0_slideTogether_105 : decode cX0_slideTogether 105 = .ok (.goto (-38), 3) := by decide +kernel
theorem dX0_slideTogether_108 : decode cX0_slideTogether 108 = .ok (.aload_n 0, 1) := by decide +kernel
theorem dX0_slideTogether_109 : decode cX0_slideTogether 109 = .ok (.invokevirtual 234, 3) := by decide +kernel
theorem dX0_slideTogether_112 : decode cX0_slideTogether 112 = .ok (.aload_n 0, 1) := by decide +kernel
theorem dX0_slideTogether_113 : decode cX0_slideTogether 113 = .ok (.iload_n 1, 1) := by decide +kernel
theorem dX0_slideTogether_114 : decode cX0_slideTogether 114 = .ok (.putfield 27, 3) := by decide +kernel
theorem dX0_slideTogether_117 : decode cX0_slideTogether 117 = .ok (.return_, 1) := by decide +kernel
set_option maxRecDepth 20000 in
theorem ggX0_touchRoots_X0_touch : GoodIn wsX0_touchRoots wsX0_touch := goodIn_r _ [6, 7, 8, 9, 10, 11, 12, 13, 14, 15, 16, 17, 18] (by decide +kernel) (by decide +kernel)
set_option maxRecDepth 20000 in
theorem gX0_touchRoots_X0_touch : GoodIn wsX0_touchRoots (wsV RX0 237 RX0 yX0_touch wsX0_touch) := goodIn_app (goodIn_of _ (by decide +kernel)) ggX0_touchRoots_X0_touch
theorem dX0_touchRoots_0 : decode cX0_touchRoots 0 = .ok (.iconst 0, 1) := by decide +kernel
theorem dX0_touchRoots_1 : decode cX0_touchRoots 1 = .ok (.istore_n 2, 1) := by decide +kernel
theorem dX0_touchRoots_2 : decode cX0_touchRoots 2 = .ok (.iload_n 2, 1) := by decide +kernel
theorem dX0_touchRoots_3 : decode cX0_touchRoots 3 = .ok (.bipush 24, 2) := by decide +kernel
theorem dX0_touchRoots_5 : decode cX0_touchRoots 5 = .ok (.if_icmp .ge 26, 3) := by decide +kernel
theorem dX0_touchRoots_8 : decode cX0_touchRoots 8 = .ok (.aload_n 0, 1) := by decide +kernel
theorem dX0_touchRoots_9 : decode cX0_touchRoots 9 = .ok (.getfield 30, 3) := by decide +kernel
theorem dX0_touchRoots_12 : decode cX0_touchRoots 12 = .ok (.iload_n 2, 1) := by decide +kernel
theorem dX0_touchRoots_13 : decode cX0_touchRoots 13 = .ok (.aload_n 0, 1) := by decide +kernel
theorem dX0_touchRoots_14 : decode cX0_touchRoots 14 = .ok (.aload_n 0, 1) := by decide +kernel
theorem dX0_touchRoots_15 : decode cX0_touchRoots 15 = .ok (.getfield 30, 3) := by decide +kernel
theorem dX0_touchRoots_18 : decode cX0_touchRoots 18 = .ok (.iload_n 2, 1) := by decide +kernel
theorem dX0_touchRoots_19 : decode cX0_touchRoots 19 = .ok (.iaload, 1) := by decide +kernel
theorem dX0_touchRoots_20 : decode cX0_touchRoots 20 = .ok (.iload_n 1, 1) := by decide +kernel
theorem dX0_touchRoots_21 : decode cX0_touchRoots 21 = .ok (.invokevirtual 237, 3) := by decide +kernel
theorem dX0_touchRoots_24 : decode cX0_touchRoots 24 = .ok (.iastore, 1) := by decide +kernel
theorem dX0_touchRoots_25 : decode cX0_touchRoots 25 = .ok (.iinc 2 1, 3) := by decide +kernel
theorem dX0_touchRoots_28 : decode cX0_touchRoots 28 = .ok (.goto (-26), 3) := by decide +kernel
theorem dX0_touchRoots_31 : decode cX0_touchRoots 31 = .ok (.return_, 1) := by decide +kernel
set_option maxRecDepth 20000 in
theorem ggX0_touchLeads_X0_linksAt : GoodIn wsX0_touchLeads wsX0_linksAt := goodIn_r _ [6, 1, 20, 21, 22, 23, 24, 25, 26, 27, 28, 29] (by decide +kernel) (by decide +kernel)
set_option maxRecDepth 20000 in
theorem gX0_touchLeads_X0_linksAt : GoodIn wsX0_touchLeads (wsV RX0 171 RX0 yX0_linksAt wsX0_linksAt) := goodIn_app (goodIn_of _ (by decide +kernel)) ggX0_touchLeads_X0_linksAt
set_option maxRecDepth 20000 in
theorem ggX0_touchLeads_X0_touch : GoodIn wsX0_touchLeads wsX0_touch := goodIn_r _ [10, 1, 11, 20, 21, 22, 23, 24, 25, 26, 27, 28, 29] (by decide +kernel) (by decide +kernel)
set_option maxRecDepth 20000 in
theorem gX0_touchLeads_X0_touch : GoodIn wsX0_touchLeads (wsV RX0 237 RX0 yX0_touch wsX0_touch) := goodIn_app (goodIn_of _ (by decide +kernel)) ggX0_touchLeads_X0_touch
set_option maxRecDepth 20000 in
theorem ggX0_touchLeads_X0_valuesAt : GoodIn wsX0_touchLeads wsX0_valuesAt := goodIn_r _ [15, 1, 20, 21, 22, 23, 24, 25, 26, 27, 28, 29] (by decide +kernel) (by decide +kernel)
set_option maxRecDepth 20000 in
theorem gX0_touchLeads_X0_valuesAt : GoodIn wsX0_touchLeads (wsV RX0 176 RX0 yX0_valuesAt wsX0_valuesAt) := goodIn_app (goodIn_of _ (by decide +kernel)) ggX0_touchLeads_X0_valuesAt
set_option maxRecDepth 20000 in
theorem ggX0_touchLeads_X0_isReference : GoodIn wsX0_touchLeads wsX0_isReference := goodIn_r _ [18, 19] (by decide +kernel) (by decide +kernel)
set_option maxRecDepth 20000 in
theorem gX0_touchLeads_X0_isReference : GoodIn wsX0_touchLeads (va_wsS RX0 86 yX0_isReference wsX0_isReference) := goodIn_app (goodIn_of _ (by decide +kernel)) ggX0_touchLeads_X0_isReference
theorem dX0_touchLeads_0 : decode cX0_touchLeads 0 = .ok (.iload_n 1, 1) := by decide +kernel
theorem dX0_touchLeads_1 : decode cX0_touchLeads 1 = .ok (.iconst 3, 1) := by decide +kernel
theorem dX0_touchLeads_2 : decode cX0_touchLeads 2 = .ok (.iadd, 1) := by decide +kernel
theorem dX0_touchLeads_3 : decode cX0_touchLeads 3 = .ok (.aload_n 0, 1) := by decide +kernel
theorem dX0_touchLeads_4 : decode cX0_touchLeads 4 = .ok (.iload_n 1, 1) := by decide +kernel
theorem dX0_touchLeads_5 : decode cX0_touchLeads 5 = .ok (.invokevirtual 171, 3) := by decide +kernel
theorem dX0_touchLeads_8 : decode cX0_touchLeads 8 = .ok (.iadd, 1) := by decide +kernel
theorem dX0_touchLeads_9 : decode cX0_touchLeads 9 = .ok (.istore_n 3, 1) := by decide +kernel
theorem dX0_touchLeads_10 : decode cX0_touchLeads 10 = .ok (.iload_n 1, 1) := by decide +kernel
theorem dX0_touchLeads_11 : decode cX0_touchLeads 11 = .ok (.iconst 3, 1) := by decide +kernel
theorem dX0_touchLeads_12 : decode cX0_touchLeads 12 = .ok (.iadd, 1) := by decide +kernel
theorem dX0_touchLeads_13 : decode cX0_touchLeads 13 = .ok (.istore 4, 2) := by decide +kernel
theorem dX0_touchLeads_15 : decode cX0_touchLeads 15 = .ok (.iload 4, 2) := by decide +kernel
theorem dX0_touchLeads_17 : decode cX0_touchLeads 17 = .ok (.iload_n 3, 1) := by decide +kernel
theorem dX0_touchLeads_18 : decode cX0_touchLeads 18 = .ok (.if_icmp .ge 28, 3) := by decide +kernel
theorem dX0_touchLeads_21 : decode cX0_touchLeads 21 = .ok (.aload_n 0, 1) := by decide +kernel
theorem dX0_touchLeads_22 : decode cX0_touchLeads 22 = .ok (.getfield 23, 3) := by decide +kernel
theorem dX0_touchLeads_25 : decode cX0_touchLeads 25 = .ok (.iload 4, 2) := by decide +kernel
theorem dX0_touchLeads_27 : decode cX0_touchLeads 27 = .ok (.aload_n 0, 1) := by decide +kernel
theorem dX0_touchLeads_28 : decode cX0_touchLeads 28 = .ok (.aload_n 0, 1) := by decide +kernel
theorem dX0_touchLeads_29 : decode cX0_touchLeads 29 = .ok (.getfield 23, 3) := by decide +kernel
theorem dX0_touchLeads_32 : decode cX0_touchLeads 32 = .ok (.iload 4, 2) := by decide +kernel
theorem dX0_touchLeads_34 : decode cX0_touchLeads 34 = .ok (.iaload, 1) := by decide +kernel
theorem dX0_touchLeads_35 : decode cX0_touchLeads 35 = .ok (.iload_n 2, 1) := by decide +kernel
theorem dX0_touchLeads_36 : decode cX0_touchLeads 36 = .ok (.invokevirtual 237, 3) := by decide +kernel
theorem dX0_touchLeads_39 : decode cX0_touchLeads 39 = .ok (.iastore, 1) := by decide +kernel
theorem dX0_touchLeads_40 : decode cX0_touchLeads 40 = .ok (.iinc 4 1, 3) := by decide +kernel
theorem dX0_touchLeads_43 : decode cX0_touchLeads 43 = .ok (.goto (-28), 3) := by decide +kernel
theorem dX0_touchLeads_46 : decode cX0_touchLeads 46 = .ok (.iload_n 3, 1) := by decide +kernel
theorem dX0_touchLeads_47 : decode cX0_touchLeads 47 = .ok (.iconst 2, 1) := by decide +kernel
theorem dX0_touchLeads_48 : decode cX0_touchLeads 48 = .ok (.aload_n 0, 1) := by decide +kernel
theorem dX0_touchLeads_49 : decode cX0_touchLeads 49 = .ok (.iload_n 1, 1) := by decide +kernel
theorem dX0_touchLeads_50 : decode cX0_touchLeads 50 = .ok (.invokevirtual 176, 3) := by decide +kernel
theorem dX0_touchLeads_53 : decode cX0_touchLeads 53 = .ok (.imul, 1) := by decide +kernel
theorem dX0_touchLeads_54 : decode cX0_touchLeads 54 = .ok (.iadd, 1) := by decide +kernel
theorem dX0_touchLeads_55 : decode cX0_touchLeads 55 = .ok (.istore 4, 2) := by decide +kernel
theorem dX0_touchLeads_57 : decode cX0_touchLeads 57 = .ok (.iload_n 3, 1) := by decide +kernel
theorem dX0_touchLeads_58 : decode cX0_touchLeads 58 = .ok (.istore 5, 2) := by decide +kernel
theorem dX0_touchLeads_60 : decode cX0_touchLeads 60 = .ok (.iload 5, 2) := by decide +kernel
theorem dX0_touchLeads_62 : decode cX0_touchLeads 62 = .ok (.iload 4, 2) := by decide +kernel
theorem dX0_touchLeads_64 : decode cX0_touchLeads 64 = .ok (.if_icmp .ge 45, 3) := by decide +kernel
theorem dX0_touchLeads_67 : decode cX0_touchLeads 67 = .ok (.aload_n 0, 1) := by decide +kernel
theorem dX0_touchLeads_68 : decode cX0_touchLeads 68 = .ok (.getfield 23, 3) := by decide +kernel
theorem dX0_touchLeads_71 : decode cX0_touchLeads 71 = .ok (.iload 5, 2) := by decide +kernel
theorem dX0_touchLeads_73 : decode cX0_touchLeads 73 = .ok (.iaload, 1) := by decide +kernel
theorem dX0_touchLeads_74 : decode cX0_touchLeads 74 = .ok (.invokestatic 86, 3) := by decide +kernel
theorem dX0_touchLeads_77 : decode cX0_touchLeads 77 = .ok (.ifCond .eq 26, 3) := by decide +kernel
theorem dX0_touchLeads_80 : decode cX0_touchLeads 80 = .ok (.aload_n 0, 1) := by decide +kernel
theorem dX0_touchLeads_81 : decode cX0_touchLeads 81 = .ok (.getfield 23, 3) := by decide +kernel
theorem dX0_touchLeads_84 : decode cX0_touchLeads 84 = .ok (.iload 5, 2) := by decide +kernel
theorem dX0_touchLeads_86 : decode cX0_touchLeads 86 = .ok (.iconst 1, 1) := by decide +kernel
theorem dX0_touchLeads_87 : decode cX0_touchLeads 87 = .ok (.iadd, 1) := by decide +kernel
theorem dX0_touchLeads_88 : decode cX0_touchLeads 88 = .ok (.aload_n 0, 1) := by decide +kernel
theorem dX0_touchLeads_89 : decode cX0_touchLeads 89 = .ok (.aload_n 0, 1) := by decide +kernel
theorem dX0_touchLeads_90 : decode cX0_touchLeads 90 = .ok (.getfield 23, 3) := by decide +kernel
theorem dX0_touchLeads_93 : decode cX0_touchLeads 93 = .ok (.iload 5, 2) := by decide +kernel
theorem dX0_touchLeads_95 : decode cX0_touchLeads 95 = .ok (.iconst 1, 1) := by decide +kernel
theorem dX0_touchLeads_96 : decode cX0_touchLeads 96 = .ok (.iadd, 1) := by decide +kernel
theorem dX0_touchLeads_97 : decode cX0_touchLeads 97 = .ok (.iaload, 1) := by decide +kernel
theorem dX0_touchLeads_98 : decode cX0_touchLeads 98 = .ok (.iload_n 2, 1) := by decide +kernel
theorem dX0_touchLeads_99 : decode cX0_touchLeads 99 = .ok (.invokevirtual 237, 3) := by decide +kernel
theorem dX0_touchLeads_102 : decode cX0_touchLeads 102 = .ok (.iastore, 1) := by decide +kernel
theorem dX0_touchLeads_103 : decode cX0_touchLeads 103 = .ok (.iinc 5 2, 3) := by decide +kernel
theorem dX0_touchLeads_106 : decode cX0_touchLeads 106 = .ok (.goto (-46), 3) := by decide +kernel
theorem dX0_touchLeads_109 : decode cX0_touchLeads 109 = .ok (.return_, 1) := by decide +kernel
theorem dX0_touch_0 : decode cX0_touch 0 = .ok (.iload_n 1, 1) := by decide +kernel
theorem dX0_touch_1 : decode cX0_touch 1 = .ok (.iconst (-1), 1) := by decide +kernel
theorem dX0_touch_2 : decode cX0_touch 2 = .ok (.if_icmp .ne 5, 3) := by decide +kernel
theorem dX0_touch_5 : decode cX0_touch 5 = .ok (.iconst (-1), 1) := by decide +kernel
theorem dX0_touch_6 : decode cX0_touch 6 = .ok (.ireturn, 1) := by decide +kernel
theorem dX0_touch_7 : decode cX0_touch 7 = .ok (.iload_n 2, 1) := by decide +kernel
theorem dX0_touch_8 : decode cX0_touch 8 = .ok (.ifCond .eq 12, 3) := by decide +kernel
theorem dX0_touch_11 : decode cX0_touch 11 = .ok (.aload_n 0, 1) := by decide +kernel
theorem dX0_touch_12 : decode cX0_touch 12 = .ok (.getfield 23, 3) := by decide +kernel
theorem dX0_touch_15 : decode cX0_touch 15 = .ok (.iload_n 1, 1) := by decide +kernel
theorem dX0_touch_16 : decode cX0_touch 16 = .ok (.iconst 1, 1) := by decide +kernel
theorem dX0_touch_17 : decode cX0_touch 17 = .ok (.iadd, 1) := by decide +kernel
theorem dX0_touch_18 : decode cX0_touch 18 = .ok (.iaload, 1) := by decide +kernel
theorem dX0_touch_19 : decode cX0_touch 19 = .ok (.ireturn, 1) := by decide +kernel
theorem dX0_touch_20 : decode cX0_touch 20 = .ok (.aload_n 0, 1) := by decide +kernel
theorem dX0_touch_21 : decode cX0_touch 21 = .ok (.getfield 23, 3) := by decide +kernel
theorem dX0_touch_24 : decode cX0_touch 24 = .ok (.iload_n 1, 1) := by decide +kernel
theorem dX0_touch_25 : decode cX0_touch 25 = .ok (.iconst 1, 1) := by decide +kernel
theorem dX0_touch_26 : decode cX0_touch 26 = .ok (.iadd, 1) := by decide +kernel
theorem dX0_touch_27 : decode cX0_touch 27 = .ok (.iaload, 1) := by decide +kernel
theorem dX0_touch_28 : decode cX0_touch 28 = .ok (.iconst (-1), 1) := by decide +kernel
theorem dX0_touch_29 : decode cX0_touch 29 = .ok (.if_icmp .ne 29, 3) := by decide +kernel
theorem dX0_touch_32 : decode cX0_touch 32 = .ok (.aload_n 0, 1) := by decide +kernel
theorem dX0_touch_33 : decode cX0_touch 33 = .ok (.getfield 23, 3) := by decide +kernel
theorem dX0_touch_36 : decode cX0_touch 36 = .ok (.iload_n 1, 1) := by decide +kernel
theorem dX0_touch_37 : decode cX0_touch 37 = .ok (.iconst 1, 1) := by decide +kernel
theorem dX0_touch_38 : decode cX0_touch 38 = .ok (.iadd, 1) := by decide +kernel
theorem dX0_touch_39 : decode cX0_touch 39 = .ok (.iload_n 1, 1) := by decide +kernel
theorem dX0_touch_40 : decode cX0_touch 40 = .ok (.iastore, 1) := by decide +kernel
theorem dX0_touch_41 : decode cX0_touch 41 = .ok (.aload_n 0, 1) := by decide +kernel
theorem dX0_touch_42 : decode cX0_touch 42 = .ok (.getfield 23, 3) := by decide +kernel
theorem dX0_touch_45 : decode cX0_touch 45 = .ok (.iload_n 1, 1) := by decide +kernel
theorem dX0_touch_46 : decode cX0_touch 46 = .ok (.iconst 2, 1) := by decide +kernel
theorem dX0_touch_47 : decode cX0_touch 47 = .ok (.iadd, 1) := by decide +kernel
theorem dX0_touch_48 : decode cX0_touch 48 = .ok (.aload_n 0, 1) := by decide +kernel
theorem dX0_touch_49 : decode cX0_touch 49 = .ok (.getfield 48, 3) := by decide +kernel
theorem dX0_touch_52 : decode cX0_touch 52 = .ok (.iastore, 1) := by decide +kernel
theorem dX0_touch_53 : decode cX0_touch 53 = .ok (.aload_n 0, 1) := by decide +kernel
theorem dX0_touch_54 : decode cX0_touch 54 = .ok (.iload_n 1, 1) := by decide +kernel
theorem dX0_touch_55 : decode cX0_touch 55 = .ok (.putfield 48, 3) := by decide +kernel
theorem dX0_touch_58 : decode cX0_touch 58 = .ok (.iload_n 1, 1) := by decide +kernel
theorem dX0_touch_59 : decode cX0_touch 59 = .ok (.ireturn, 1) := by decide +kernel
set_option maxRecDepth 20000 in
theorem ggX0_planMoves_X0_sizeAt : GoodIn wsX0_planMoves wsX0_sizeAt := goodIn_r _ [11, 2, 12, 13, 14, 15, 16, 17, 18, 19, 20, 21] (by decide +kernel) (by decide +kernel)
set_option maxRecDepth 20000 in
theorem gX0_planMoves_X0_sizeAt : GoodIn wsX0_planMoves (wsV RX0 181 RX0 yX0_sizeAt wsX0_sizeAt) := goodIn_app (goodIn_of _ (by decide +kernel)) ggX0_planMoves_X0_sizeAt
theorem dX0_planMoves_0 : decode cX0_planMoves 0 = .ok (.iconst 0, 1) := by decide +kernel
theorem dX0_planMoves_1 : decode cX0_planMoves 1 = .ok (.istore_n 1, 1) := by decide +kernel
theorem dX0_planMoves_2 : decode cX0_planMoves 2 = .ok (.iconst 0, 1) := by decide +kernel
theorem dX0_planMoves_3 : decode cX0_planMoves 3 = .ok (.istore_n 2, 1) := by decide +kernel
theorem dX0_planMoves_4 : decode cX0_planMoves 4 = .ok (.iload_n 2, 1) := by decide +kernel
theorem dX0_planMoves_5 : decode cX0_planMoves 5 = .ok (.aload_n 0, 1) := by decide +kernel
theorem dX0_planMoves_6 : decode cX0_planMoves 6 = .ok (.getfield 27, 3) := by decide +kernel
theorem dX0_planMoves_9 : decode cX0_planMoves 9 = .ok (.if_icmp .ge 47, 3) := by decide +kernel
theorem dX0_planMoves_12 : decode cX0_planMoves 12 = .ok (.aload_n 0, 1) := by decide +kernel
theorem dX0_planMoves_13 : decode cX0_planMoves 13 = .ok (.getfield 23, 3) := by decide +kernel
theorem dX0_planMoves_16 : decode cX0_planMoves 16 = .ok (.iload_n 2, 1) := by decide +kernel
theorem dX0_planMoves_17 : decode cX0_planMoves 17 = .ok (.iconst 1, 1) := by decide +kernel
theorem dX0_planMoves_18 : decode cX0_planMoves 18 = .ok (.iadd, 1) := by decide +kernel
theorem dX0_planMoves_19 : decode cX0_planMoves 19 = .ok (.iaload, 1) := by decide +kernel
theorem dX0_planMoves_20 : decode cX0_planMoves 20 = .ok (.iconst (-1), 1) := by decide +kernel
theorem dX0_planMoves_21 : decode cX0_planMoves 21 = .ok (.if_icmp .eq 20, 3) := by decide +kernel
theorem dX0_planMoves_24 : decode cX0_planMoves 24 = .ok (.aload_n 0, 1) := by decide +kernel
theorem dX0_planMoves_25 : decode cX0_planMoves 25 = .ok (.getfield 23, 3) := by decide +kernel
theorem dX0_planMoves_28 : decode cX0_planMoves 28 = .ok (.iload_n 2, 1) := by decide +kernel
theorem dX0_planMoves_29 : decode cX0_planMoves 29 = .ok (.iconst 1, 1) := by decide +kernel
theorem dX0_planMoves_30 : decode cX0_planMoves 30 = .ok (.iadd, 1) := by decide +kernel
theorem dX0_planMoves_31 : decode cX0_planMoves 31 = .ok (.iload_n 1, 1) := by decide +kernel
theorem dX0_planMoves_32 : decode cX0_planMoves 32 = .ok (.iastore, 1) := by decide +kernel
theorem dX0_planMoves_33 : decode cX0_planMoves 33 = .ok (.iload_n 1, 1) := by decide +kernel
theorem dX0_planMoves_34 : decode cX0_planMoves 34 = .ok (.aload_n 0, 1) := by decide +kernel
theorem dX0_planMoves_35 : decode cX0_planMoves 35 = .ok (.iload_n 2, 1) := by decide +kernel
theorem dX0_planMoves_36 : decode cX0_planMoves 36 = .ok (.invokevirtual 181, 3) := by decide +kernel
theorem dX0_planMoves_39 : decode cX0_planMoves 39 = .ok (.iadd, 1) := by decide +kernel
theorem dX0_planMoves_40 : decode cX0_planMoves 40 = .ok (.istore_n 1, 1) := by decide +kernel
theorem dX0_planMoves_41 : decode cX0_planMoves 41 = .ok (.iload_n 2, 1) := by decide +kernel
theorem dX0_planMoves_42 : decode cX0_planMoves 42 = .ok (.iconst 3, 1) := by decide +kernel
theorem dX0_planMoves_43 : decode cX0_planMoves 43 = .ok (.aload_n 0, 1) := by decide +kernel
theorem dX0_planMoves_44 : decode cX0_planMoves 44 = .ok (.iload_n 2, 1) := by decide +kernel
theorem dX0_planMoves_45 : decode cX0_planMoves 45 = .ok (.invokevirtual 181, 3) := by decide +kernel
theorem dX0_planMoves_48 : decode cX0_planMoves 48 = .ok (.invokestatic 16, 3) := by decide +kernel
theorem dX0_planMoves_51 : decode cX0_planMoves 51 = .ok (.iadd, 1) := by decide +kernel
theorem dX0_planMoves_52 : decode cX0_planMoves 52 = .ok (.istore_n 2, 1) := by decide +kernel
theorem dX0_planMoves_53 : decode cX0_planMoves 53 = .ok (.goto (-49), 3) := by decide +kernel
theorem dX0_planMoves_56 : decode cX0_planMoves 56 = .ok (.iload_n 1, 1) := by decide +kernel
theorem dX0_planMoves_57 : decode cX0_planMoves 57 = .ok (.ireturn, 1) := by decide +kernel
theorem dX0_keepNames_0 : decode cX0_keepNames 0 = .ok (.iconst 0, 1) := by decide +kernel
theorem dX0_keepNames_1 : decode cX0_keepNames 1 = .ok (.istore_n 1, 1) := by decide +kernel
theorem dX0_keepNames_2 : decode cX0_keepNames 2 = .ok (.iconst 0, 1) := by decide +kernel
theorem dX0_keepNames_3 : decode cX0_keepNames 3 = .ok (.istore_n 2, 1) := by decide +kernel
theorem dX0_keepNames_4 : decode cX0_keepNames 4 = .ok (.iload_n 2, 1) := by decide +kernel
theorem dX0_keepNames_5 : decode cX0_keepNames 5 = .ok (.aload_n 0, 1) := by decide +kernel
theorem dX0_keepNames_6 : decode cX0_keepNames 6 = .ok (.getfield 42, 3) := by decide +kernel
theorem dX0_keepNames_9 : decode cX0_keepNames 9 = .ok (.if_icmp .ge 38, 3) := by decide +kernel
theorem dX0_keepNames_12 : decode cX0_keepNames 12 = .ok (.aload_n 0, 1) := by decide +kernel
theorem dX0_keepNames_13 : decode cX0_keepNames 13 = .ok (.getfield 23, 3) := by decide +kernel
theorem dX0_keepNames_16 : decode cX0_keepNames 16 = .ok (.aload_n 0, 1) := by decide +kernel
theorem dX0_keepNames_17 : decode cX0_keepNames 17 = .ok (.getfield 39, 3) := by decide +kernel
theorem dX0_keepNames_20 : decode cX0_keepNames 20 = .ok (.iload_n 2, 1) := by decide +kernel
theorem dX0_keepNames_21 : decode cX0_keepNames 21 = .ok (.iaload, 1) := by decide +kernel
theorem dX0_keepNames_22 : decode cX0_keepNames 22 = .ok (.iconst 1, 1) := by decide +kernel
theorem dX0_keepNames_23 : decode cX0_keepNames 23 = .ok (.iadd, 1) := by decide +kernel
theorem dX0_keepNames_24 : decode cX0_keepNames 24 = .ok (.iaload, 1) := by decide +kernel
theorem dX0_keepNames_25 : decode cX0_keepNames 25 = .ok (.istore_n 3, 1) := by decide +kernel
theorem dX0_keepNames_26 : decode cX0_keepNames 26 = .ok (.iload_n 3, 1) := by decide +kernel
theorem dX0_keepNames_27 : decode cX0_keepNames 27 = .ok (.iconst (-1), 1) := by decide +kernel
theorem dX0_keepNames_28 : decode cX0_keepNames 28 = .ok (.if_icmp .eq 13, 3) := by decide +kernel
theorem dX0_keepNames_31 : decode cX0_keepNames 31 = .ok (.aload_n 0, 1) := by decide +kernel
theorem dX0_keepNames_32 : decode cX0_keepNames 32 = .ok (.getfield 39, 3) := by decide +kernel
theorem dX0_keepNames_35 : decode cX0_keepNames 35 = .ok (.iload_n 1, 1) := by decide +kernel
theorem dX0_keepNames_36 : decode cX0_keepNames 36 = .ok (.iload_n 3, 1) := by decide +kernel
theorem dX0_keepNames_37 : decode cX0_keepNames 37 = .ok (.iastore, 1) := by decide +kernel
theorem dX0_keepNames_38 : decode cX0_keepNames 38 = .ok (.iinc 1 1, 3) := by decide +kernel
theorem dX0_keepNames_41 : decode cX0_keepNames 41 = .ok (.iinc 2 1, 3) := by decide +kernel
theorem dX0_keepNames_44 : decode cX0_keepNames 44 = .ok (.goto (-40), 3) := by decide +kernel
theorem dX0_keepNames_47 : decode cX0_keepNames 47 = .ok (.aload_n 0, 1) := by decide +kernel
theorem dX0_keepNames_48 : decode cX0_keepNames 48 = .ok (.iload_n 1, 1) := by decide +kernel
theorem dX0_keepNames_49 : decode cX0_keepNames 49 = .ok (.putfield 42, 3) := by decide +kernel
theorem dX0_keepNames_52 : decode cX0_keepNames 52 = .ok (.return_, 1) := by decide +kernel
set_option maxRecDepth 20000 in
theorem ggX0_moveAll_X0_sizeAt : GoodIn wsX0_moveAll wsX0_sizeAt := goodIn_r _ [15, 2, 16, 17, 18, 19, 20, 21, 22, 23, 24, 25] (by decide +kernel) (by decide +kernel)
set_option maxRecDepth 20000 in
theorem gX0_moveAll_X0_sizeAt : GoodIn wsX0_moveAll (wsV RX0 181 RX0 yX0_sizeAt wsX0_sizeAt) := goodIn_app (goodIn_of _ (by decide +kernel)) ggX0_moveAll_X0_sizeAt
theorem dX0_moveAll_0 : decode cX0_moveAll 0 = .ok (.iconst 0, 1) := by decide +kernel
theorem dX0_moveAll_1 : decode cX0_moveAll 1 = .ok (.istore_n 1, 1) := by decide +kernel
theorem dX0_moveAll_2 : decode cX0_moveAll 2 = .ok (.iconst 0, 1) := by decide +kernel
theorem dX0_moveAll_3 : decode cX0_moveAll 3 = .ok (.istore_n 2, 1) := by decide +kernel
theorem dX0_moveAll_4 : decode cX0_moveAll 4 = .ok (.iload_n 2, 1) := by decide +kernel
theorem dX0_moveAll_5 : decode cX0_moveAll 5 = .ok (.aload_n 0, 1) := by decide +kernel
theorem dX0_moveAll_6 : decode cX0_moveAll 6 = .ok (.getfield 27, 3) := by decide +kernel
theorem dX0_moveAll_9 : decode cX0_moveAll 9 = .ok (.if_icmp .ge 62, 3) := by decide +kernel
theorem dX0_moveAll_12 : decode cX0_moveAll 12 = .ok (.aload_n 0, 1) := by decide +kernel
theorem dX0_moveAll_13 : decode cX0_moveAll 13 = .ok (.iload_n 2, 1) := by decide +kernel
theorem dX0_moveAll_14 : decode cX0_moveAll 14 = .ok (.invokevirtual 181, 3) := by decide +kernel
theorem dX0_moveAll_17 : decode cX0_moveAll 17 = .ok (.istore_n 1, 1) := by decide +kernel
theorem dX0_moveAll_18 : decode cX0_moveAll 18 = .ok (.aload_n 0, 1) := by decide +kernel
theorem dX0_moveAll_19 : decode cX0_moveAll 19 = .ok (.getfield 23, 3) := by decide +kernel
theorem dX0_moveAll_22 : decode cX0_moveAll 22 = .ok (.iload_n 2, 1) := by decide +kernel
theorem dX0_moveAll_23 : decode cX0_moveAll 23 = .ok (.iconst 1, 1) := by decide +kernel
theorem dX0_moveAll_24 : decode cX0_moveAll 24 = .ok (.iadd, 1) := by decide +kernel
theorem dX0_moveAll_25 : decode cX0_moveAll 25 = .ok (.iaload, 1) := by decide +kernel
theorem dX0_moveAll_26 : decode cX0_moveAll 26 = .ok (.istore_n 3, 1) := by decide +kernel
theorem dX0_moveAll_27 : decode cX0_moveAll 27 = .ok (.aload_n 0, 1) := by decide +kernel
theorem dX0_moveAll_28 : decode cX0_moveAll 28 = .ok (.getfield 23, 3) := by decide +kernel
theorem dX0_moveAll_31 : decode cX0_moveAll 31 = .ok (.iload_n 2, 1) := by decide +kernel
theorem dX0_moveAll_32 : decode cX0_moveAll 32 = .ok (.iconst 1, 1) := by decide +kernel
theorem dX0_moveAll_33 : decode cX0_moveAll 33 = .ok (.iadd, 1) := by decide +kernel
theorem dX0_moveAll_34 : decode cX0_moveAll 34 = .ok (.iconst (-1), 1) := by decide +kernel
theorem dX0_moveAll_35 : decode cX0_moveAll 35 = .ok (.iastore, 1) := by decide +kernel
theorem dX0_moveAll_36 : decode cX0_moveAll 36 = .ok (.iload_n 3, 1) := by decide +kernel
theorem dX0_moveAll_37 : decode cX0_moveAll 37 = .ok (.iconst (-1), 1) := by decide +kernel
theorem dX0_moveAll_38 : decode cX0_moveAll 38 = .ok (.if_icmp .eq 22, 3) := by decide +kernel
theorem dX0_moveAll_41 : decode cX0_moveAll 41 = .ok (.iload_n 3, 1) := by decide +kernel
theorem dX0_moveAll_42 : decode cX0_moveAll 42 = .ok (.iload_n 2, 1) := by decide +kernel
theorem dX0_moveAll_43 : decode cX0_moveAll 43 = .ok (.if_icmp .ge 17, 3) := by decide +kernel
theorem dX0_moveAll_46 : decode cX0_moveAll 46 = .ok (.aload_n 0, 1) := by decide +kernel
theorem dX0_moveAll_47 : decode cX0_moveAll 47 = .ok (.getfield 23, 3) := by decide +kernel
theorem dX0_moveAll_50 : decode cX0_moveAll 50 = .ok (.iload_n 2, 1) := by decide +kernel
theorem dX0_moveAll_51 : decode cX0_moveAll 51 = .ok (.aload_n 0, 1) := by decide +kernel
theorem dX0_moveAll_52 : decode cX0_moveAll 52 = .ok (.getfield 23, 3) := by decide +kernel
theorem dX0_moveAll_55 : decode cX0_moveAll 55 = .ok (.iload_n 3, 1) := by decide +kernel
theorem dX0_moveAll_56 : decode cX0_moveAll 56 = .ok (.iload_n 1, 1) := by decide +kernel
theorem dX0_moveAll_57 : decode cX0_moveAll 57 = .ok (.invokestatic 241, 3) := by decide +kernel
theorem dX0_moveAll_60 : decode cX0_moveAll 60 = .ok (.iload_n 2, 1) := by decide +kernel
theorem dX0_moveAll_61 : decode cX0_moveAll 61 = .ok (.iconst 3, 1) := by decide +kernel
theorem dX0_moveAll_62 : decode cX0_moveAll 62 = .ok (.iload_n 1, 1) := by decide +kernel
theorem dX0_moveAll_63 : decode cX0_moveAll 63 = .ok (.invokestatic 16, 3) := by decide +kernel
theorem dX0_moveAll_66 : decode cX0_moveAll 66 = .ok (.iadd, 1) := by decide +kernel
theorem dX0_moveAll_67 : decode cX0_moveAll 67 = .ok (.istore_n 2, 1) := by decide +kernel
theorem dX0_moveAll_68 : decode cX0_moveAll 68 = .ok (.goto (-64), 3) := by decide +kernel
theorem dX0_moveAll_71 : decode cX0_moveAll 71 = .ok (.return_, 1) := by decide +kernel
