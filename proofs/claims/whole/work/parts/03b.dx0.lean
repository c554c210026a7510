set_option maxRecDepth 20000 in
theorem ggX0_join_X0_needRoot : GoodIn wsX0_join wsX0_needRoot := goodIn_ca (goodIn_r _ [7, 8, 9] (by decide +kernel) (by decide +kernel)) (goodIn_sub (fun _ h => List.mem_cons_of_mem _ (List.mem_append_right _ h)) (by decide +kernel))
set_option maxRecDepth 20000 in
theorem gX0_join_X0_needRoot : GoodIn wsX0_join (va_wsS RX0 57 yX0_needRoot wsX0_needRoot) := goodIn_app (goodIn_of _ (by decide +kernel)) ggX0_join_X0_needRoot
set_option maxRecDepth 20000 in
theorem ggX0_join_X0_needText : GoodIn wsX0_join wsX0_needText := goodIn_ca (goodIn_r _ [13, 8, 9, 3, 4, 5, 6, 7, 14, 15, 16, 17, 18, 155, 156, 157, 158, 159, 160, 161, 162, 163, 164] (by decide +kernel) (by decide +kernel)) (goodIn_sub (fun _ h => List.mem_cons_of_mem _ (List.mem_append_right _ h)) (by decide +kernel))
set_option maxRecDepth 20000 in
theorem gX0_join_X0_needText : GoodIn wsX0_join (wsV RX0 112 RX0 yX0_needText wsX0_needText) := goodIn_app (goodIn_of _ (by decide +kernel)) ggX0_join_X0_needText
set_option maxRecDepth 20000 in
theorem ggX0_join_X0_lengthIn : GoodIn wsX0_join wsX0_lengthIn := goodIn_r _ [22, 3, 23, 24, 25, 6, 26, 18, 27, 28, 29, 30, 155, 156, 157, 158, 159, 160, 161, 162, 163, 164] (by decide +kernel) (by decide +kernel)
set_option maxRecDepth 20000 in
theorem gX0_join_X0_lengthIn : GoodIn wsX0_join (wsV RX0 115 RX0 yX0_lengthIn wsX0_lengthIn) := goodIn_app (goodIn_of _ (by decide +kernel)) ggX0_join_X0_lengthIn
set_option maxRecDepth 20000 in
theorem ggX0_join_X0_makeFlatOfTwo : GoodIn wsX0_join wsX0_makeFlatOfTwo := goodIn_ca (goodIn_r _ [34, 3, 19, 20, 21, 6, 22, 23, 24, 25, 26, 18, 27, 28, 29, 30, 35, 36, 37, 38, 39, 40, 41, 42, 1, 2, 43, 44, 45, 46, 47, 48, 49, 50, 51, 52, 53, 54, 55, 56, 57, 58, 59, 60, 61, 62, 63, 64, 65, 66, 67, 68, 69, 70, 71, 72, 73, 74, 75, 76, 77, 78, 79, 80, 81, 82, 83, 84, 85, 86, 87, 88, 89, 90, 91, 92, 93, 94, 95, 96, 97, 98, 99, 100, 101, 102, 103, 104, 105, 106, 107, 108, 109, 110, 111, 112, 113, 114, 115, 116, 117, 118, 119, 120, 121, 122, 123, 124, 125, 126, 127, 128, 129, 130, 131, 132, 133, 134, 135, 136, 137, 138, 139, 140, 141, 142, 143, 144, 145, 146, 147, 148, 149, 150, 155, 156, 157, 158, 159, 160, 161, 162, 163, 164, 165, 166, 167, 168] (by decide +kernel) (by decide +kernel)) (goodIn_sub (fun _ h => List.mem_cons_of_mem _ (List.mem_append_left _ (List.mem_append_right _ h))) (by decide +kernel))
set_option maxRecDepth 20000 in
theorem gX0_join_X0_makeFlatOfTwo : GoodIn wsX0_join (wsV RX0 123 RX0 yX0_makeFlatOfTwo wsX0_makeFlatOfTwo) := goodIn_app (goodIn_of _ (by decide +kernel)) ggX0_join_X0_makeFlatOfTwo
set_option maxRecDepth 20000 in
theorem ggX0_join_X0_makeJoined : GoodIn wsX0_join wsX0_makeJoined := goodIn_ca (goodIn_r _ [154, 18, 3, 39, 40, 41, 6, 42, 1, 2, 43, 44, 45, 46, 47, 48, 49, 50, 51, 52, 53, 54, 55, 56, 57, 58, 59, 60, 61, 62, 63, 64, 65, 66, 67, 68, 69, 70, 71, 27, 28, 29, 30, 72, 73, 74, 75, 76, 77, 78, 79, 80, 81, 82, 83, 84, 85, 86, 87, 88, 89, 90, 91, 92, 93, 94, 95, 96, 97, 98, 99, 100, 101, 102, 103, 104, 105, 106, 107, 108, 109, 110, 111, 112, 113, 114, 115, 116, 117, 118, 119, 120, 121, 122, 123, 124, 125, 126, 127, 128, 129, 130, 131, 132, 133, 19, 20, 21, 22, 23, 24, 25, 26, 134, 135, 136, 137, 155, 156, 157, 158, 159, 160, 161, 162, 163, 164, 165, 166, 167, 168] (by decide +kernel) (by decide +kernel)) (goodIn_sub (fun _ h => List.mem_cons_of_mem _ (List.mem_append_left _ (List.mem_append_right _ h))) (by decide +kernel))
set_option maxRecDepth 20000 in
theorem gX0_join_X0_makeJoined : GoodIn wsX0_join (wsV RX0 126 RX0 yX0_makeJoined wsX0_makeJoined) := goodIn_app (goodIn_of _ (by decide +kernel)) ggX0_join_X0_makeJoined
theorem dX0_join_0 : decode cX0_join 0 = .ok (.iload_n 1, 1) := by decide +kernel
theorem dX0_join_1 : decode cX0_join 1 = .ok (.invokestatic 57, 3) := by decide +kernel
theorem dX0_join_4 : decode cX0_join 4 = .ok (.aload_n 0, 1) := by decide +kernel
theorem dX0_join_5 : decode cX0_join 5 = .ok (.iload_n 2, 1) := by decide +kernel
theorem dX0_join_6 : decode cX0_join 6 = .ok (.invokevirtual 112, 3) := by decide +kernel
theorem dX0_join_9 : decode cX0_join 9 = .ok (.aload_n 0, 1) := by decide +kernel
theorem dX0_join_10 : decode cX0_join 10 = .ok (.iload_n 3, 1) := by decide +kernel
theorem dX0_join_11 : decode cX0_join 11 = .ok (.invokevirtual 112, 3) := by decide +kernel
theorem dX0_join_14 : decode cX0_join 14 = .ok (.aload_n 0, 1) := by decide +kernel
theorem dX0_join_15 : decode cX0_join 15 = .ok (.iload_n 2, 1) := by decide +kernel
theorem dX0_join_16 : decode cX0_join 16 = .ok (.invokevirtual 115, 3) := by decide +kernel
theorem dX0_join_19 : decode cX0_join 19 = .ok (.istore 4, 2) := by decide +kernel
theorem dX0_join_21 : decode cX0_join 21 = .ok (.aload_n 0, 1) := by decide +kernel
theorem dX0_join_22 : decode cX0_join 22 = .ok (.iload_n 3, 1) := by decide +kernel
theorem dX0_join_23 : decode cX0_join 23 = .ok (.invokevirtual 115, 3) := by decide +kernel
theorem dX0_join_26 : decode cX0_join 26 = .ok (.istore 5, 2) := by decide +kernel
theorem dX0_join_28 : decode cX0_join 28 = .ok (.iload 4, 2) := by decide +kernel
theorem dX0_join_30 : decode cX0_join 30 = .ok (.iload 5, 2) := by decide +kernel
theorem dX0_join_32 : decode cX0_join 32 = .ok (.iadd, 1) := by decide +kernel
theorem dX0_join_33 : decode cX0_join 33 = .ok (.sipush 4000, 3) := by decide +kernel
theorem dX0_join_36 : decode cX0_join 36 = .ok (.if_icmp .le 13, 3) := by decide +kernel
theorem dX0_join_39 : decode cX0_join 39 = .ok (.new 118, 3) := by decide +kernel
theorem dX0_join_42 : decode cX0_join 42 = .ok (.dup, 1) := by decide +kernel
theorem dX0_join_43 : decode cX0_join 43 = .ok (.ldc 120, 2) := by decide +kernel
theorem dX0_join_45 : decode cX0_join 45 = .ok (.invokespecial 122, 3) := by decide +kernel
theorem dX0_join_48 : decode cX0_join 48 = .ok (.athrow, 1) := by decide +kernel
theorem dX0_join_49 : decode cX0_join 49 = .ok (.iload 4, 2) := by decide +kernel
theorem dX0_join_51 : decode cX0_join 51 = .ok (.ifCond .ne 18, 3) := by decide +kernel
theorem dX0_join_54 : decode cX0_join 54 = .ok (.aload_n 0, 1) := by decide +kernel
theorem dX0_join_55 : decode cX0_join 55 = .ok (.getfield 30, 3) := by decide +kernel
theorem dX0_join_58 : decode cX0_join 58 = .ok (.iload_n 1, 1) := by decide +kernel
theorem dX0_join_59 : decode cX0_join 59 = .ok (.aload_n 0, 1) := by decide +kernel
theorem dX0_join_60 : decode cX0_join 60 = .ok (.getfield 30, 3) := by decide +kernel
theorem dX0_join_63 : decode cX0_join 63 = .ok (.iload_n 3, 1) := by decide +kernel
theorem dX0_join_64 : decode cX0_join 64 = .ok (.iaload, 1) := by decide +kernel
theorem dX0_join_65 : decode cX0_join 65 = .ok (.iastore, 1) := by decide +kernel
theorem dX0_join_66 : decode cX0_join 66 = .ok (.goto 60, 3) := by decide +kernel
theorem dX0_join_69 : decode cX0_join 69 = .ok (.iload 5, 2) := by decide +kernel
theorem dX0_join_71 : decode cX0_join 71 = .ok (.ifCond .ne 18, 3) := by decide +kernel
theorem dX0_join_74 : decode cX0_join 74 = .ok (.aload_n 0, 1) := by decide +kernel
theorem dX0_join_75 : decode cX0_join 75 = .ok (.getfield 30, 3) := by decide +kernel
theorem dX0_join_78 : decode cX0_join 78 = .ok (.iload_n 1, 1) := by decide +kernel
theorem dX0_join_79 : decode cX0_join 79 = .ok (.aload_n 0, 1) := by decide +kernel
theorem dX0_join_80 : decode cX0_join 80 = .ok (.getfield 30, 3) := by decide +kernel
theorem dX0_join_83 : decode cX0_join 83 = .ok (.iload_n 2, 1) := by decide +kernel
theorem dX0_join_84 : decode cX0_join 84 = .ok (.iaload, 1) := by decide +kernel
theorem dX0_join_85 : decode cX0_join 85 = .ok (.iastore, 1) := by decide +kernel
theorem dX0_join_86 : decode cX0_join 86 = .ok (.goto 40, 3) := by decide +kernel
theorem dX0_join_89 : decode cX0_join 89 = .ok (.iload 4, 2) := by decide +kernel
theorem dX0_join_91 : decode cX0_join 91 = .ok (.iload 5, 2) := by decide +kernel
theorem dX0_join_93 : decode cX0_join 93 = .ok (.iadd, 1) := by decide +kernel
theorem dX0_join_94 : decode cX0_join 94 = .ok (.bipush 24, 2) := by decide +kernel
theorem dX0_join_96 : decode cX0_join 96 = .ok (.if_icmp .gt 18, 3) := by decide +kernel
theorem dX0_join_99 : decode cX0_join 99 = .ok (.aload_n 0, 1) := by decide +kernel
theorem dX0_join_100 : decode cX0_join 100 = .ok (.getfield 30, 3) := by decide +kernel
theorem dX0_join_103 : decode cX0_join 103 = .ok (.iload_n 1, 1) := by decide +kernel
theorem dX0_join_104 : decode cX0_join 104 = .ok (.aload_n 0, 1) := by decide +kernel
theorem dX0_join_105 : decode cX0_join 105 = .ok (.iload_n 2, 1) := by decide +kernel
theorem dX0_join_106 : decode cX0_join 106 = .ok (.iload_n 3, 1) := by decide +kernel
theorem dX0_join_107 : decode cX0_join 107 = .ok (.invokevirtual 123, 3) := by decide +kernel
theorem dX0_join_110 : decode cX0_join 110 = .ok (.iastore, 1) := by decide +kernel
theorem dX0_join_111 : decode cX0_join 111 = .ok (.goto 15, 3) := by decide +kernel
theorem dX0_join_114 : decode cX0_join 114 = .ok (.aload_n 0, 1) := by decide +kernel
theorem dX0_join_115 : decode cX0_join 115 = .ok (.getfield 30, 3) := by decide +kernel
theorem dX0_join_118 : decode cX0_join 118 = .ok (.iload_n 1, 1) := by decide +kernel
theorem dX0_join_119 : decode cX0_join 119 = .ok (.aload_n 0, 1) := by decide +kernel
theorem dX0_join_120 : decode cX0_join 120 = .ok (.iload_n 2, 1) := by decide +kernel
theorem dX0_join_121 : decode cX0_join 121 = .ok (.iload_n 3, 1) := by decide +kernel
theorem dX0_join_122 : decode cX0_join 122 = .ok (.invokevirtual 126, 3) := by decide +kernel
theorem dX0_join_125 : decode cX0_join 125 = .ok (.iastore, 1) := by decide +kernel
theorem dX0_join_126 : decode cX0_join 126 = .ok (.return_, 1) := by decide +kernel
set_option maxRecDepth 20000 in
theorem ggX0_part_X0_needRoot : GoodIn wsX0_part wsX0_needRoot := goodIn_ca (goodIn_r _ [7, 1, 2] (by decide +kernel) (by decide +kernel)) (goodIn_sub (fun _ h => List.mem_cons_of_mem _ (List.mem_append_left _ (List.mem_append_right _ h))) (by decide +kernel))
set_option maxRecDepth 20000 in
theorem gX0_part_X0_needRoot : GoodIn wsX0_part (va_wsS RX0 57 yX0_needRoot wsX0_needRoot) := goodIn_app (goodIn_of _ (by decide +kernel)) ggX0_part_X0_needRoot
set_option maxRecDepth 20000 in
theorem ggX0_part_X0_needText : GoodIn wsX0_part wsX0_needText := goodIn_ca (goodIn_r _ [11, 1, 2, 3, 4, 5, 6, 7, 12, 13, 14, 15, 16, 160, 161, 162, 163, 164, 165, 166, 167, 168, 169] (by decide +kernel) (by decide +kernel)) (goodIn_sub (fun _ h => List.mem_cons_of_mem _ (List.mem_append_left _ (List.mem_append_right _ h))) (by decide +kernel))
set_option maxRecDepth 20000 in
theorem gX0_part_X0_needText : GoodIn wsX0_part (wsV RX0 112 RX0 yX0_needText wsX0_needText) := goodIn_app (goodIn_of _ (by decide +kernel)) ggX0_part_X0_needText
set_option maxRecDepth 20000 in
theorem ggX0_part_X0_lengthIn : GoodIn wsX0_part wsX0_lengthIn := goodIn_r _ [20, 3, 21, 22, 23, 6, 24, 16, 25, 26, 27, 28, 160, 161, 162, 163, 164, 165, 166, 167, 168, 169] (by decide +kernel) (by decide +kernel)
set_option maxRecDepth 20000 in
theorem gX0_part_X0_lengthIn : GoodIn wsX0_part (wsV RX0 115 RX0 yX0_lengthIn wsX0_lengthIn) := goodIn_app (goodIn_of _ (by decide +kernel)) ggX0_part_X0_lengthIn
set_option maxRecDepth 20000 in
theorem ggX0_part_X0_goOver : GoodIn wsX0_part wsX0_goOver := goodIn_ca (goodIn_r _ [32, 3, 16, 12, 13, 14, 6, 15, 17, 18, 19, 20, 21, 22, 23, 24, 25, 26, 27, 28, 33, 34, 35, 36, 37, 38, 39, 40, 41, 42, 43, 44, 45, 46, 47, 48, 49, 50, 51, 52, 53, 54, 55, 56, 57, 58, 59, 60, 61, 62, 63, 64, 65, 66, 67, 68, 69, 70, 71, 72, 73, 74, 75, 76, 77, 78, 79, 80, 81, 82, 83, 84, 85, 86, 87, 88, 89, 90, 91, 92, 93, 94, 95, 96, 97, 98, 99, 100, 101, 102, 103, 104, 105, 106, 107, 108, 109, 110, 111, 112, 113, 114, 115, 116, 117, 118, 119, 120, 121, 122, 123, 124, 125, 126, 127, 128, 129, 130, 131, 132, 133, 134, 135, 136, 137, 138, 139, 140, 141, 142, 143, 144, 145, 146, 147, 148, 149, 150, 151, 152, 153, 154, 155, 156, 157, 158, 159, 160, 161, 162, 163, 164, 165, 166, 167, 168, 169, 170, 171, 172, 173] (by decide +kernel) (by decide +kernel)) (goodIn_sub (fun _ h => List.mem_cons_of_mem _ (List.mem_append_right _ h)) (by decide +kernel))
set_option maxRecDepth 20000 in
theorem gX0_part_X0_goOver : GoodIn wsX0_part (wsV RX0 131 RX0 yX0_goOver wsX0_goOver) := goodIn_app (goodIn_of _ (by decide +kernel)) ggX0_part_X0_goOver
set_option maxRecDepth 20000 in
theorem ggX0_part_X0_makeFlat : GoodIn wsX0_part wsX0_makeFlat := goodIn_ca (goodIn_r _ [36, 37, 38, 39, 6, 40, 41, 42, 16, 43, 44, 45, 46, 47, 48, 49, 50, 51, 52, 53, 54, 55, 56, 57, 58, 59, 60, 61, 62, 63, 3, 64, 65, 66, 67, 68, 69, 70, 71, 25, 26, 27, 28, 72, 73, 74, 75, 76, 77, 78, 79, 80, 81, 82, 83, 84, 85, 86, 87, 88, 89, 90, 91, 92, 93, 94, 95, 96, 97, 98, 99, 100, 101, 102, 103, 104, 105, 106, 107, 108, 109, 110, 111, 112, 113, 114, 115, 116, 117, 118, 119, 120, 121, 122, 123, 124, 125, 126, 127, 128, 129, 130, 131, 132, 133, 134, 135, 136, 137, 160, 161, 162, 163, 164, 165, 166, 167, 168, 169, 170, 171, 172, 173] (by decide +kernel) (by decide +kernel)) (goodIn_sub (fun _ h => List.mem_cons_of_mem _ (List.mem_append_right _ h)) (by decide +kernel))
set_option maxRecDepth 20000 in
theorem gX0_part_X0_makeFlat : GoodIn wsX0_part (wsV RX0 104 RX0 yX0_makeFlat wsX0_makeFlat) := goodIn_app (goodIn_of _ (by decide +kernel)) ggX0_part_X0_makeFlat
set_option maxRecDepth 20000 in
theorem ggX0_part_X0_flatOf : GoodIn wsX0_part wsX0_flatOf := goodIn_r _ [146, 16, 12, 13, 14, 6, 15, 160, 161, 162, 163, 164, 165, 166, 167, 168, 169] (by decide +kernel) (by decide +kernel)
set_option maxRecDepth 20000 in
theorem gX0_part_X0_flatOf : GoodIn wsX0_part (wsV RX0 134 RX0 yX0_flatOf wsX0_flatOf) := goodIn_app (goodIn_of _ (by decide +kernel)) ggX0_part_X0_flatOf
set_option maxRecDepth 20000 in
theorem ggX0_part_X0_copyUnits : GoodIn wsX0_part wsX0_copyUnits := goodIn_r _ [150, 151, 152, 153, 6, 154, 16, 155, 156, 157, 158, 159, 160, 161, 162, 163, 164, 165, 166, 167, 168, 169] (by decide +kernel) (by decide +kernel)
set_option maxRecDepth 20000 in
theorem gX0_part_X0_copyUnits : GoodIn wsX0_part (wsV RX0 137 RX0 yX0_copyUnits wsX0_copyUnits) := goodIn_app (goodIn_of _ (by decide +kernel)) ggX0_part_X0_copyUnits
theorem dX0_part_0 : decode cX0_part 0 = .ok (.iload_n 1, 1) := by decide +kernel
theorem dX0_part_1 : decode cX0_part 1 = .ok (.invokestatic 57, 3) := by decide +kernel
theorem dX0_part_4 : decode cX0_part 4 = .ok (.aload_n 0, 1) := by decide +kernel
theorem dX0_part_5 : decode cX0_part 5 = .ok (.iload_n 2, 1) := by decide +kernel
theorem dX0_part_6 : decode cX0_part 6 = .ok (.invokevirtual 112, 3) := by decide +kernel
theorem dX0_part_9 : decode cX0_part 9 = .ok (.iload_n 3, 1) := by decide +kernel
theorem dX0_part_10 : decode cX0_part 10 = .ok (.ifCond .lt 19, 3) := by decide +kernel
theorem dX0_part_13 : decode cX0_part 13 = .ok (.iload 4, 2) := by decide +kernel
theorem dX0_part_15 : decode cX0_part 15 = .ok (.iload_n 3, 1) := by decide +kernel
theorem dX0_part_16 : decode cX0_part 16 = .ok (.if_icmp .lt 13, 3) := by decide +kernel
theorem dX0_part_19 : decode cX0_part 19 = .ok (.iload 4, 2) := by decide +kernel
theorem dX0_part_21 : decode cX0_part 21 = .ok (.aload_n 0, 1) := by decide +kernel
theorem dX0_part_22 : decode cX0_part 22 = .ok (.iload_n 2, 1) := by decide +kernel
theorem dX0_part_23 : decode cX0_part 23 = .ok (.invokevirtual 115, 3) := by decide +kernel
theorem dX0_part_26 : decode cX0_part 26 = .ok (.if_icmp .le 13, 3) := by decide +kernel
theorem dX0_part_29 : decode cX0_part 29 = .ok (.new 65, 3) := by decide +kernel
theorem dX0_part_32 : decode cX0_part 32 = .ok (.dup, 1) := by decide +kernel
theorem dX0_part_33 : decode cX0_part 33 = .ok (.ldc 129, 2) := by decide +kernel
theorem dX0_part_35 : decode cX0_part 35 = .ok (.invokespecial 69, 3) := by decide +kernel
theorem dX0_part_38 : decode cX0_part 38 = .ok (.athrow, 1) := by decide +kernel
theorem dX0_part_39 : decode cX0_part 39 = .ok (.aload_n 0, 1) := by decide +kernel
theorem dX0_part_40 : decode cX0_part 40 = .ok (.iload_n 2, 1) := by decide +kernel
theorem dX0_part_41 : decode cX0_part 41 = .ok (.invokevirtual 131, 3) := by decide +kernel
theorem dX0_part_44 : decode cX0_part 44 = .ok (.aload_n 0, 1) := by decide +kernel
theorem dX0_part_45 : decode cX0_part 45 = .ok (.iconst 2, 1) := by decide +kernel
theorem dX0_part_46 : decode cX0_part 46 = .ok (.iload 4, 2) := by decide +kernel
theorem dX0_part_48 : decode cX0_part 48 = .ok (.iload_n 3, 1) := by decide +kernel
theorem dX0_part_49 : decode cX0_part 49 = .ok (.isub, 1) := by decide +kernel
theorem dX0_part_50 : decode cX0_part 50 = .ok (.invokevirtual 104, 3) := by decide +kernel
theorem dX0_part_53 : decode cX0_part 53 = .ok (.istore 5, 2) := by decide +kernel
theorem dX0_part_55 : decode cX0_part 55 = .ok (.aload_n 0, 1) := by decide +kernel
theorem dX0_part_56 : decode cX0_part 56 = .ok (.aload_n 0, 1) := by decide +kernel
theorem dX0_part_57 : decode cX0_part 57 = .ok (.aload_n 0, 1) := by decide +kernel
theorem dX0_part_58 : decode cX0_part 58 = .ok (.getfield 30, 3) := by decide +kernel
theorem dX0_part_61 : decode cX0_part 61 = .ok (.iload_n 2, 1) := by decide +kernel
theorem dX0_part_62 : decode cX0_part 62 = .ok (.iaload, 1) := by decide +kernel
theorem dX0_part_63 : decode cX0_part 63 = .ok (.invokevirtual 134, 3) := by decide +kernel
theorem dX0_part_66 : decode cX0_part 66 = .ok (.iload_n 3, 1) := by decide +kernel
theorem dX0_part_67 : decode cX0_part 67 = .ok (.iload 4, 2) := by decide +kernel
theorem dX0_part_69 : decode cX0_part 69 = .ok (.iload 5, 2) := by decide +kernel
theorem dX0_part_71 : decode cX0_part 71 = .ok (.iconst 0, 1) := by decide +kernel
theorem dX0_part_72 : decode cX0_part 72 = .ok (.invokevirtual 137, 3) := by decide +kernel
theorem dX0_part_75 : decode cX0_part 75 = .ok (.aload_n 0, 1) := by decide +kernel
theorem dX0_part_76 : decode cX0_part 76 = .ok (.getfield 30, 3) := by decide +kernel
theorem dX0_part_79 : decode cX0_part 79 = .ok (.iload_n 1, 1) := by decide +kernel
theorem dX0_part_80 : decode cX0_part 80 = .ok (.iload 5, 2) := by decide +kernel
theorem dX0_part_82 : decode cX0_part 82 = .ok (.iastore, 1) := by decide +kernel
theorem dX0_part_83 : decode cX0_part 83 = .ok (.return_, 1) := by decide +kernel
set_option maxRecDepth 20000 in
theorem ggX0_length_X0_needText : GoodIn wsX0_length wsX0_needText := goodIn_ca (goodIn_r _ [5, 6, 7, 8, 9, 10, 4, 11, 12, 13, 14, 15, 16, 29, 30, 31, 32, 33, 34, 35, 36, 37, 38] (by decide +kernel) (by decide +kernel)) (goodIn_sub (fun _ h => List.mem_cons_of_mem _ (List.mem_append_right _ h)) (by decide +kernel))
set_option maxRecDepth 20000 in
theorem gX0_length_X0_needText : GoodIn wsX0_length (wsV RX0 112 RX0 yX0_needText wsX0_needText) := goodIn_app (goodIn_of _ (by decide +kernel)) ggX0_length_X0_needText
set_option maxRecDepth 20000 in
theorem ggX0_length_X0_lengthIn : GoodIn wsX0_length wsX0_lengthIn := goodIn_r _ [20, 8, 21, 22, 23, 4, 24, 16, 25, 26, 27, 28, 29, 30, 31, 32, 33, 34, 35, 36, 37, 38] (by decide +kernel) (by decide +kernel)
set_option maxRecDepth 20000 in
theorem gX0_length_X0_lengthIn : GoodIn wsX0_length (wsV RX0 115 RX0 yX0_lengthIn wsX0_lengthIn) := goodIn_app (goodIn_of _ (by decide +kernel)) ggX0_length_X0_lengthIn
theorem dX0_length_0 : decode cX0_length 0 = .ok (.aload_n 0, 1) := by decide +kernel
theorem dX0_length_1 : decode cX0_length 1 = .ok (.iload_n 1, 1) := by decide +kernel
theorem dX0_length_2 : decode cX0_length 2 = .ok (.invokevirtual 112, 3) := by decide +kernel
theorem dX0_length_5 : decode cX0_length 5 = .ok (.aload_n 0, 1) := by decide +kernel
theorem dX0_length_6 : decode cX0_length 6 = .ok (.iload_n 1, 1) := by decide +kernel
theorem dX0_length_7 : decode cX0_length 7 = .ok (.invokevirtual 115, 3) := by decide +kernel
theorem dX0_length_10 : decode cX0_length 10 = .ok (.ireturn, 1) := by decide +kernel
set_option maxRecDepth 20000 in
theorem ggX0_unit_X0_needText : GoodIn wsX0_unit wsX0_needText := goodIn_ca (goodIn_r _ [8, 1, 2, 3, 9, 10, 7, 11, 12, 13, 14, 15, 16, 160, 161, 162, 163, 164, 165, 166, 167, 168, 169] (by decide +kernel) (by decide +kernel)) (goodIn_sub (fun _ h => List.mem_cons_of_mem _ (List.mem_append_left _ (List.mem_append_right _ h))) (by decide +kernel))
set_option maxRecDepth 20000 in
theorem gX0_unit_X0_needText : GoodIn wsX0_unit (wsV RX0 112 RX0 yX0_needText wsX0_needText) := goodIn_app (goodIn_of _ (by decide +kernel)) ggX0_unit_X0_needText
set_option maxRecDepth 20000 in
theorem ggX0_unit_X0_lengthIn : GoodIn wsX0_unit wsX0_lengthIn := goodIn_r _ [20, 3, 21, 22, 23, 7, 24, 16, 25, 26, 27, 28, 160, 161, 162, 163, 164, 165, 166, 167, 168, 169] (by decide +kernel) (by decide +kernel)
set_option maxRecDepth 20000 in
theorem gX0_unit_X0_lengthIn : GoodIn wsX0_unit (wsV RX0 115 RX0 yX0_lengthIn wsX0_lengthIn) := goodIn_app (goodIn_of _ (by decide +kernel)) ggX0_unit_X0_lengthIn
set_option maxRecDepth 20000 in
theorem ggX0_unit_X0_goOver : GoodIn wsX0_unit wsX0_goOver := goodIn_ca (goodIn_r _ [32, 3, 16, 12, 13, 14, 7, 15, 17, 18, 19, 20, 21, 22, 23, 24, 25, 26, 27, 28, 33, 34, 35, 36, 37, 38, 39, 40, 41, 42, 43, 44, 45, 46, 47, 48, 49, 50, 51, 52, 53, 54, 55, 56, 57, 58, 59, 60, 61, 62, 63, 64, 65, 66, 67, 68, 69, 70, 71, 72, 73, 74, 75, 76, 77, 78, 79, 80, 81, 82, 83, 84, 85, 86, 87, 88, 89, 90, 91, 92, 93, 94, 95, 96, 97, 98, 99, 100, 101, 102, 103, 104, 105, 106, 107, 108, 109, 110, 111, 112, 113, 114, 115, 116, 117, 118, 119, 120, 121, 122, 123, 124, 125, 126, 127, 128, 129, 130, 131, 132, 133, 134, 135, 136, 137, 138, 139, 140, 141, 142, 143, 144, 145, 146, 147, 148, 149, 150, 151, 152, 153, 154, 155, 156, 157, 158, 159, 160, 161, 162, 163, 164, 165, 166, 167, 168, 169, 170, 171, 172, 173] (by decide +kernel) (by decide +kernel)) (goodIn_sub (fun _ h => List.mem_cons_of_mem _ (List.mem_append_right _ h)) (by decide +kernel))
set_option maxRecDepth 20000 in
theorem gX0_unit_X0_goOver : GoodIn wsX0_unit (wsV RX0 131 RX0 yX0_goOver wsX0_goOver) := goodIn_app (goodIn_of _ (by decide +kernel)) ggX0_unit_X0_goOver
set_option maxRecDepth 20000 in
theorem ggX0_unit_X0_flatOf : GoodIn wsX0_unit wsX0_flatOf := goodIn_r _ [146, 16, 12, 13, 14, 7, 15, 160, 161, 162, 163, 164, 165, 166, 167, 168, 169] (by decide +kernel) (by decide +kernel)
set_option maxRecDepth 20000 in
theorem gX0_unit_X0_flatOf : GoodIn wsX0_unit (wsV RX0 134 RX0 yX0_flatOf wsX0_flatOf) := goodIn_app (goodIn_of _ (by decide +kernel)) ggX0_unit_X0_flatOf
set_option maxRecDepth 20000 in
theorem ggX0_unit_X0_unitAt : GoodIn wsX0_unit wsX0_unitAt := goodIn_r _ [154, 16, 155, 160, 161, 162, 163, 164, 165, 166, 167, 168, 169] (by decide +kernel) (by decide +kernel)
set_option maxRecDepth 20000 in
theorem gX0_unit_X0_unitAt : GoodIn wsX0_unit (wsV RX0 143 RX0 yX0_unitAt wsX0_unitAt) := goodIn_app (goodIn_of _ (by decide +kernel)) ggX0_unit_X0_unitAt
theorem dX0_unit_0 : decode cX0_unit 0 = .ok (.aload_n 0, 1) := by decide +kernel
theorem dX0_unit_1 : decode cX0_unit 1 = .ok (.iload_n 1, 1) := by decide +kernel
theorem dX0_unit_2 : decode cX0_unit 2 = .ok (.invokevirtual 112, 3) := by decide +kernel
theorem dX0_unit_5 : decode cX0_unit 5 = .ok (.iload_n 2, 1) := by decide +kernel
theorem dX0_unit_6 : decode cX0_unit 6 = .ok (.ifCond .lt 12, 3) := by decide +kernel
theorem dX0_unit_9 : decode cX0_unit 9 = .ok (.iload_n 2, 1) := by decide +kernel
theorem dX0_unit_10 : decode cX0_unit 10 = .ok (.aload_n 0, 1) := by decide +kernel
theorem dX0_unit_11 : decode cX0_unit 11 = .ok (.iload_n 1, 1) := by decide +kernel
theorem dX0_unit_12 : decode cX0_unit 12 = .ok (.invokevirtual 115, 3) := by decide +kernel
theorem dX0_unit_15 : decode cX0_unit 15 = .ok (.if_icmp .lt 13, 3) := by decide +kernel
theorem dX0_unit_18 : decode cX0_unit 18 = .ok (.new 65, 3) := by decide +kernel
theorem dX0_unit_21 : decode cX0_unit 21 = .ok (.dup, 1) := by decide +kernel
theorem dX0_unit_22 : decode cX0_unit 22 = .ok (.ldc 141, 2) := by decide +kernel
theorem dX0_unit_24 : decode cX0_unit 24 = .ok (.invokespecial 69, 3) := by decide +kernel
theorem dX0_unit_27 : decode cX0_unit 27 = .ok (.athrow, 1) := by decide +kernel
theorem dX0_unit_28 : decode cX0_unit 28 = .ok (.aload_n 0, 1) := by decide +kernel
theorem dX0_unit_29 : decode cX0_unit 29 = .ok (.iload_n 1, 1) := by decide +kernel
theorem dX0_unit_30 : decode cX0_unit 30 = .ok (.invokevirtual 131, 3) := by decide +kernel
theorem dX0_unit_33 : decode cX0_unit 33 = .ok (.aload_n 0, 1) := by decide +kernel
theorem dX0_unit_34 : decode cX0_unit 34 = .ok (.aload_n 0, 1) := by decide +kernel
theorem dX0_unit_35 : decode cX0_unit 35 = .ok (.aload_n 0, 1) := by decide +kernel
theorem dX0_unit_36 : decode cX0_unit 36 = .ok (.getfield 30, 3) := by decide +kernel
theorem dX0_unit_39 : decode cX0_unit 39 = .ok (.iload_n 1, 1) := by decide +kernel
theorem dX0_unit_40 : decode cX0_unit 40 = .ok (.iaload, 1) := by decide +kernel
theorem dX0_unit_41 : decode cX0_unit 41 = .ok (.invokevirtual 134, 3) := by decide +kernel
theorem dX0_unit_44 : decode cX0_unit 44 = .ok (.iload_n 2, 1) := by decide +kernel
theorem dX0_unit_45 : decode cX0_unit 45 = .ok (.invokevirtual 143, 3) := by decide +kernel
theorem dX0_unit_48 : decode cX0_unit 48 = .ok (.ireturn, 1) := by decide +kernel
set_option maxRecDepth 20000 in
theorem ggX0_compare_X0_needText : GoodIn wsX0_compare wsX0_needText := goodIn_ca (goodIn_r _ [10, 11, 12, 1, 13, 14, 9, 15, 16, 17, 18, 19, 20, 164, 165, 166, 167, 168, 169, 170, 171, 172, 173] (by decide +kernel) (by decide +kernel)) (goodIn_sub (fun _ h => List.mem_cons_of_mem _ (List.mem_append_left _ (List.mem_append_right _ h))) (by decide +kernel))
set_option maxRecDepth 20000 in
theorem gX0_compare_X0_needText : GoodIn wsX0_compare (wsV RX0 112 RX0 yX0_needText wsX0_needText) := goodIn_app (goodIn_of _ (by decide +kernel)) ggX0_compare_X0_needText
set_option maxRecDepth 20000 in
theorem ggX0_compare_X0_goOver : GoodIn wsX0_compare wsX0_goOver := goodIn_ca (goodIn_r _ [24, 1, 20, 16, 17, 18, 9, 19, 25, 26, 27, 28, 29, 30, 31, 32, 33, 34, 35, 36, 37, 38, 39, 40, 41, 42, 43, 44, 45, 46, 47, 48, 49, 50, 51, 52, 53, 54, 55, 56, 57, 58, 59, 60, 61, 4, 62, 63, 64, 65, 66, 67, 68, 69, 70, 71, 72, 73, 74, 75, 76, 77, 78, 79, 80, 81, 82, 83, 84, 85, 86, 87, 88, 89, 90, 91, 92, 93, 94, 95, 96, 97, 98, 99, 100, 101, 102, 103, 104, 105, 106, 107, 108, 2, 3, 5, 109, 110, 111, 112, 113, 114, 115, 116, 117, 118, 119, 120, 121, 122, 123, 124, 125, 126, 127, 128, 129, 130, 131, 132, 133, 134, 135, 136, 137, 138, 139, 140, 141, 142, 143, 144, 145, 146, 147, 148, 149, 150, 151, 152, 153, 154, 155, 156, 157, 158, 159, 164, 165, 166, 167, 168, 169, 170, 171, 172, 173, 174, 175, 176, 177] (by decide +kernel) (by decide +kernel)) (goodIn_sub (fun _ h => List.mem_cons_of_mem _ (List.mem_append_right _ h)) (by decide +kernel))
set_option maxRecDepth 20000 in
theorem gX0_compare_X0_goOver : GoodIn wsX0_compare (wsV RX0 131 RX0 yX0_goOver wsX0_goOver) := goodIn_app (goodIn_of _ (by decide +kernel)) ggX0_compare_X0_goOver
set_option maxRecDepth 20000 in
theorem ggX0_compare_X0_flatOf : GoodIn wsX0_compare wsX0_flatOf := goodIn_r _ [146, 20, 16, 17, 18, 9, 19, 164, 165, 166, 167, 168, 169, 170, 171, 172, 173] (by decide +kernel) (by decide +kernel)
set_option maxRecDepth 20000 in
theorem gX0_compare_X0_flatOf : GoodIn wsX0_compare (wsV RX0 134 RX0 yX0_flatOf wsX0_flatOf) := goodIn_app (goodIn_of _ (by decide +kernel)) ggX0_compare_X0_flatOf
set_option maxRecDepth 20000 in
theorem ggX0_compare_X0_lengthIn : GoodIn wsX0_compare wsX0_lengthIn := goodIn_r _ [28, 1, 29, 30, 31, 9, 32, 20, 33, 34, 35, 36, 164, 165, 166, 167, 168, 169, 170, 171, 172, 173] (by decide +kernel) (by decide +kernel)
set_option maxRecDepth 20000 in
theorem gX0_compare_X0_lengthIn : GoodIn wsX0_compare (wsV RX0 115 RX0 yX0_lengthIn wsX0_lengthIn) := goodIn_app (goodIn_of _ (by decide +kernel)) ggX0_compare_X0_lengthIn
set_option maxRecDepth 20000 in
theorem ggX0_compare_X0_unitAt : GoodIn wsX0_compare wsX0_unitAt := goodIn_r _ [154, 20, 155, 164, 165, 166, 167, 168, 169, 170, 171, 172, 173] (by decide +kernel) (by decide +kernel)
set_option maxRecDepth 20000 in
theorem gX0_compare_X0_unitAt : GoodIn wsX0_compare (wsV RX0 143 RX0 yX0_unitAt wsX0_unitAt) := goodIn_app (goodIn_of _ (by decide +kernel)) ggX0_compare_X0_unitAt
set_option maxRecDepth 20000 in
theorem ggX0_compare_J6_signum_0f7a4 : GoodIn wsX0_compare wsJ6_signum_0f7a4 := goodIn_r _ [163] (by decide +kernel) (by decide +kernel)
set_option maxRecDepth 20000 in
theorem gX0_compare_J6_signum_0f7a4 : GoodIn wsX0_compare (va_wsS RX0 146 yJ6_signum_0f7a4 wsJ6_signum_0f7a4) := goodIn_app (goodIn_of _ (by decide +kernel)) ggX0_compare_J6_signum_0f7a4
theorem dX0_compare_0 : decode cX0_compare 0 = .ok (.aload_n 0, 1) := by decide +kernel
theorem dX0_compare_1 : decode cX0_compare 1 = .ok (.iload_n 1, 1) := by decide +kernel
theorem dX0_compare_2 : decode cX0_compare 2 = .ok (.invokevirtual 112, 3) := by decide +kernel
theorem dX0_compare_5 : decode cX0_compare 5 = .ok (.aload_n 0, 1) := by decide +kernel
theorem dX0_compare_6 : decode cX0_compare 6 = .ok (.iload_n 2, 1) := by decide +kernel
theorem dX0_compare_7 : decode cX0_compare 7 = .ok (.invokevirtual 112, 3) := by decide +kernel
theorem dX0_compare_10 : decode cX0_compare 10 = .ok (.aload_n 0, 1) := by decide +kernel
theorem dX0_compare_11 : decode cX0_compare 11 = .ok (.iload_n 1, 1) := by decide +kernel
theorem dX0_compare_12 : decode cX0_compare 12 = .ok (.invokevirtual 131, 3) := by decide +kernel
theorem dX0_compare_15 : decode cX0_compare 15 = .ok (.aload_n 0, 1) := by decide +kernel
theorem dX0_compare_16 : decode cX0_compare 16 = .ok (.iload_n 2, 1) := by decide +kernel
theorem dX0_compare_17 : decode cX0_compare 17 = .ok (.invokevirtual 131, 3) := by decide +kernel
theorem dX0_compare_20 : decode cX0_compare 20 = .ok (.aload_n 0, 1) := by decide +kernel
theorem dX0_compare_21 : decode cX0_compare 21 = .ok (.aload_n 0, 1) := by decide +kernel
theorem dX0_compare_22 : decode cX0_compare 22 = .ok (.getfield 30, 3) := by decide +kernel
theorem dX0_compare_25 : decode cX0_compare 25 = .ok (.iload_n 1, 1) := by decide +kernel
theorem dX0_compare_26 : decode cX0_compare 26 = .ok (.iaload, 1) := by decide +kernel
theorem dX0_compare_27 : decode cX0_compare 27 = .ok (.invokevirtual 134, 3) := by decide +kernel
theorem dX0_compare_30 : decode cX0_compare 30 = .ok (.istore_n 3, 1) := by decide +kernel
theorem dX0_compare_31 : decode cX0_compare 31 = .ok (.aload_n 0, 1) := by decide +kernel
theorem dX0_compare_32 : decode cX0_compare 32 = .ok (.aload_n 0, 1) := by decide +kernel
theorem dX0_compare_33 : decode cX0_compare 33 = .ok (.getfield 30, 3) := by decide +kernel
theorem dX0_compare_36 : decode cX0_compare 36 = .ok (.iload_n 2, 1) := by decide +kernel
theorem dX0_compare_37 : decode cX0_compare 37 = .ok (.iaload, 1) := by decide +kernel
theorem dX0_compare_38 : decode cX0_compare 38 = .ok (.invokevirtual 134, 3) := by decide +kernel
theorem dX0_compare_41 : decode cX0_compare 41 = .ok (.istore 4, 2) := by decide +kernel
theorem dX0_compare_43 : decode cX0_compare 43 = .ok (.aload_n 0, 1) := by decide +kernel
theorem dX0_compare_44 : decode cX0_compare 44 = .ok (.iload_n 1, 1) := by decide +kernel
theorem dX0_compare_45 : decode cX0_compare 45 = .ok (.invokevirtual 115, 3) := by decide +kernel
theorem dX0_compare_48 : decode cX0_compare 48 = .ok (.aload_n 0, 1) := by decide +kernel
theorem dX0_compare_49 : decode cX0_compare 49 = .ok (.iload_n 2, 1) := by decide +kernel
theorem dX0_compare_50 : decode cX0_compare 50 = .ok (.invokevirtual 115, 3) := by decide +kernel
theorem dX0_compare_53 : decode cX0_compare 53 = .ok (.invokestatic 10, 3) := by decide +kernel
theorem dX0_compare_56 : decode cX0_compare 56 = .ok (.istore 5, 2) := by decide +kernel
theorem dX0_compare_58 : decode cX0_compare 58 = .ok (.iconst 0, 1) := by decide +kernel
theorem dX0_compare_59 : decode cX0_compare 59 = .ok (.istore 6, 2) := by decide +kernel
theorem dX0_compare_61 : decode cX0_compare 61 = .ok (.iload 6, 2) := by decide +kernel
theorem dX0_compare_63 : decode cX0_compare 63 = .ok (.iload 5, 2) := by decide +kernel
theorem dX0_compare_65 : decode cX0_compare 65 = .ok (.if_icmp .ge 38, 3) := by decide +kernel
theorem dX0_compare_68 : decode cX0_compare 68 = .ok (.aload_n 0, 1) := by decide +kernel
theorem dX0_compare_69 : decode cX0_compare 69 = .ok (.iload_n 3, 1) := by decide +kernel
theorem dX0_compare_70 : decode cX0_compare 70 = .ok (.iload 6, 2) := by decide +kernel
theorem dX0_compare_72 : decode cX0_compare 72 = .ok (.invokevirtual 143, 3) := by decide +kernel
theorem dX0_compare_75 : decode cX0_compare 75 = .ok (.aload_n 0, 1) := by decide +kernel
theorem dX0_compare_76 : decode cX0_compare 76 = .ok (.iload 4, 2) := by decide +kernel
theorem dX0_compare_78 : decode cX0_compare 78 = .ok (.iload 6, 2) := by decide +kernel
theorem dX0_compare_80 : decode cX0_compare 80 = .ok (.invokevirtual 143, 3) := by decide +kernel
theorem dX0_compare_83 : decode cX0_compare 83 = .ok (.isub, 1) := by decide +kernel
theorem dX0_compare_84 : decode cX0_compare 84 = .ok (.istore 7, 2) := by decide +kernel
theorem dX0_compare_86 : decode cX0_compare 86 = .ok (.iload 7, 2) := by decide +kernel
theorem dX0_compare_88 : decode cX0_compare 88 = .ok (.ifCond .eq 9, 3) := by decide +kernel
theorem dX0_compare_91 : decode cX0_compare 91 = .ok (.iload 7, 2) := by decide +kernel
theorem dX0_compare_93 : decode cX0_compare 93 = .ok (.invokestatic 146, 3) := by decide +kernel
theorem dX0_compare_96 : decode cX0_compare 96 = .ok (.ireturn, 1) := by decide +kernel
theorem dX0_compare_97 : decode cX0_compare 97 = .ok (.iinc 6 1, 3) := by decide +kernel
theorem dX0_compare_100 : decode cX0_compare 100 = .ok (.goto (-39), 3) := by decide +kernel
theorem dX0_compare_103 : decode cX0_compare 103 = .ok (.aload_n 0, 1) := by decide +kernel
theorem dX0_compare_104 : decode cX0_compare 104 = .ok (.iload_n 1, 1) := by decide +kernel
theorem dX0_compare_105 : decode cX0_compare 105 = .ok (.invokevirtual 115, 3) := by decide +kernel
theorem dX0_compare_108 : decode cX0_compare 108 = .ok (.aload_n 0, 1) := by decide +kernel
theorem dX0_compare_109 : decode cX0_compare 109 = .ok (.iload_n 2, 1) := by decide +kernel
theorem dX0_compare_110 : decode cX0_compare 110 = .ok (.invokevirtual 115, 3) := by decide +kernel
theorem dX0_compare_113 : decode cX0_compare 113 = .ok (.isub, 1) := by decide +kernel
theorem dX0_compare_114 : decode cX0_compare 114 = .ok (.invokestatic 146, 3) := by decide +kernel
theorem dX0_compare_117 : decode cX0_compare 117 = .ok (.ireturn, 1) := by decide +kernel
set_option maxRecDepth 20000 in
theorem ggX0_name_X0_needRoot : GoodIn wsX0_name wsX0_needRoot := goodIn_ca (goodIn_r _ [5, 6, 7] (by decide +kernel) (by decide +kernel)) (goodIn_sub (fun _ h => List.mem_cons_of_mem _ (List.mem_append_left _ (List.mem_append_right _ h))) (by decide +kernel))
set_option maxRecDepth 20000 in
theorem gX0_name_X0_needRoot : GoodIn wsX0_name (va_wsS RX0 57 yX0_needRoot wsX0_needRoot) := goodIn_app (goodIn_of _ (by decide +kernel)) ggX0_name_X0_needRoot
set_option maxRecDepth 20000 in
theorem ggX0_name_X0_needText : GoodIn wsX0_name wsX0_needText := goodIn_ca (goodIn_r _ [11, 6, 7, 1, 2, 3, 4, 5, 12, 13, 14, 15, 16, 172, 173, 174, 175, 176, 177, 178, 179, 180, 181] (by decide +kernel) (by decide +kernel)) (goodIn_sub (fun _ h => List.mem_cons_of_mem _ (List.mem_append_left _ (List.mem_append_right _ h))) (by decide +kernel))
set_option maxRecDepth 20000 in
theorem gX0_name_X0_needText : GoodIn wsX0_name (wsV RX0 112 RX0 yX0_needText wsX0_needText) := goodIn_app (goodIn_of _ (by decide +kernel)) ggX0_name_X0_needText
set_option maxRecDepth 20000 in
theorem ggX0_name_X0_kindAt : GoodIn wsX0_name wsX0_kindAt := goodIn_r _ [15, 16, 172, 173, 174, 175, 176, 177, 178, 179, 180, 181] (by decide +kernel) (by decide +kernel)
set_option maxRecDepth 20000 in
theorem gX0_name_X0_kindAt : GoodIn wsX0_name (wsV RX0 76 RX0 yX0_kindAt wsX0_kindAt) := goodIn_app (goodIn_of _ (by decide +kernel)) ggX0_name_X0_kindAt
set_option maxRecDepth 20000 in
theorem ggX0_name_X0_goOver : GoodIn wsX0_name wsX0_goOver := goodIn_ca (goodIn_r _ [20, 1, 16, 12, 13, 14, 4, 15, 21, 22, 23, 24, 25, 26, 27, 28, 29, 30, 31, 32, 33, 34, 35, 36, 37, 38, 39, 40, 41, 42, 43, 44, 45, 46, 47, 48, 49, 50, 51, 52, 53, 54, 55, 56, 57, 58, 59, 60, 61, 62, 63, 64, 65, 66, 67, 68, 69, 70, 71, 72, 73, 74, 75, 76, 77, 78, 79, 80, 81, 82, 83, 84, 85, 86, 87, 88, 89, 90, 91, 92, 93, 94, 95, 96, 97, 98, 99, 100, 101, 102, 103, 104, 105, 106, 107, 108, 109, 110, 111, 112, 113, 114, 115, 116, 117, 118, 119, 120, 121, 122, 123, 124, 125, 126, 127, 128, 129, 130, 131, 132, 133, 134, 135, 136, 137, 138, 139, 140, 141, 142, 143, 144, 145, 146, 147, 148, 149, 150, 151, 152, 153, 154, 155, 156, 157, 158, 159, 172, 173, 174, 175, 176, 177, 178, 179, 180, 181, 182, 183, 184, 185] (by decide +kernel) (by decide +kernel)) (goodIn_sub (fun _ h => List.mem_cons_of_mem _ (List.mem_append_right _ h)) (by decide +kernel))
set_option maxRecDepth 20000 in
theorem gX0_name_X0_goOver : GoodIn wsX0_name (wsV RX0 131 RX0 yX0_goOver wsX0_goOver) := goodIn_app (goodIn_of _ (by decide +kernel)) ggX0_name_X0_goOver
set_option maxRecDepth 20000 in
theorem ggX0_name_X0_flatOf : GoodIn wsX0_name wsX0_flatOf := goodIn_r _ [146, 16, 12, 13, 14, 4, 15, 172, 173, 174, 175, 176, 177, 178, 179, 180, 181] (by decide +kernel) (by decide +kernel)
set_option maxRecDepth 20000 in
theorem gX0_name_X0_flatOf : GoodIn wsX0_name (wsV RX0 134 RX0 yX0_flatOf wsX0_flatOf) := goodIn_app (goodIn_of _ (by decide +kernel)) ggX0_name_X0_flatOf
set_option maxRecDepth 20000 in
theorem ggX0_name_X0_findName : GoodIn wsX0_name wsX0_findName := goodIn_r _ [163, 92, 93, 164, 165, 166, 4, 167, 16, 25, 26, 27, 28, 29, 30, 31, 32, 84, 85, 86, 87, 172, 173, 174, 175, 176, 177, 178, 179, 180, 181] (by decide +kernel) (by decide +kernel)
set_option maxRecDepth 20000 in
theorem gX0_name_X0_findName : GoodIn wsX0_name (wsV RX0 151 RX0 yX0_findName wsX0_findName) := goodIn_app (goodIn_of _ (by decide +kernel)) ggX0_name_X0_findName
set_option maxRecDepth 20000 in
theorem ggX0_name_X0_makeName : GoodIn wsX0_name wsX0_makeName := goodIn_ca (goodIn_r _ [171, 1, 92, 93, 21, 22, 23, 4, 24, 25, 26, 27, 28, 16, 29, 30, 31, 32, 33, 34, 35, 36, 37, 38, 39, 40, 41, 42, 43, 44, 45, 46, 47, 48, 49, 50, 51, 52, 53, 54, 55, 56, 57, 58, 59, 60, 61, 62, 63, 64, 65, 66, 67, 68, 69, 70, 71, 72, 73, 74, 75, 76, 77, 78, 79, 80, 81, 82, 83, 84, 85, 86, 87, 88, 89, 90, 91, 94, 95, 96, 97, 98, 99, 100, 101, 102, 103, 104, 105, 106, 107, 108, 109, 110, 111, 112, 113, 114, 115, 116, 117, 118, 119, 120, 121, 122, 123, 124, 125, 126, 127, 128, 129, 130, 131, 132, 133, 134, 135, 136, 137, 143, 144, 145, 146, 12, 13, 14, 15, 147, 148, 149, 150, 151, 152, 153, 154, 155, 156, 157, 158, 159, 172, 173, 174, 175, 176, 177, 178, 179, 180, 181, 182, 183, 184, 185] (by decide +kernel) (by decide +kernel)) (goodIn_sub (fun _ h => List.mem_cons_of_mem _ (List.mem_append_right _ h)) (by decide +kernel))
set_option maxRecDepth 20000 in
theorem gX0_name_X0_makeName : GoodIn wsX0_name (wsV RX0 154 RX0 yX0_makeName wsX0_makeName) := goodIn_app (goodIn_of _ (by decide +kernel)) ggX0_name_X0_makeName
theorem dX0_name_0 : decode cX0_name 0 = .ok (.iload_n 1, 1) := by decide +kernel
theorem dX0_name_1 : decode cX0_name 1 = .ok (.invokestatic 57, 3) := by decide +kernel
theorem dX0_name_4 : decode cX0_name 4 = .ok (.aload_n 0, 1) := by decide +kernel
theorem dX0_name_5 : decode cX0_name 5 = .ok (.iload_n 2, 1) := by decide +kernel
theorem dX0_name_6 : decode cX0_name 6 = .ok (.invokevirtual 112, 3) := by decide +kernel
theorem dX0_name_9 : decode cX0_name 9 = .ok (.aload_n 0, 1) := by decide +kernel
theorem dX0_name_10 : decode cX0_name 10 = .ok (.aload_n 0, 1) := by decide +kernel
theorem dX0_name_11 : decode cX0_name 11 = .ok (.getfield 30, 3) := by decide +kernel
theorem dX0_name_14 : decode cX0_name 14 = .ok (.iload_n 2, 1) := by decide +kernel
theorem dX0_name_15 : decode cX0_name 15 = .ok (.iaload, 1) := by decide +kernel
theorem dX0_name_16 : decode cX0_name 16 = .ok (.invokevirtual 76, 3) := by decide +kernel
theorem dX0_name_19 : decode cX0_name 19 = .ok (.iconst 5, 1) := by decide +kernel
theorem dX0_name_20 : decode cX0_name 20 = .ok (.if_icmp .ne 16, 3) := by decide +kernel
theorem dX0_name_23 : decode cX0_name 23 = .ok (.aload_n 0, 1) := by decide +kernel
theorem dX0_name_24 : decode cX0_name 24 = .ok (.getfield 30, 3) := by decide +kernel
theorem dX0_name_27 : decode cX0_name 27 = .ok (.iload_n 1, 1) := by decide +kernel
theorem dX0_name_28 : decode cX0_name 28 = .ok (.aload_n 0, 1) := by decide +kernel
theorem dX0_name_29 : decode cX0_name 29 = .ok (.getfield 30, 3) := by decide +kernel
theorem dX0_name_32 : decode cX0_name 32 = .ok (.iload_n 2, 1) := by decide +kernel
theorem dX0_name_33 : decode cX0_name 33 = .ok (.iaload, 1) := by decide +kernel
theorem dX0_name_34 : decode cX0_name 34 = .ok (.iastore, 1) := by decide +kernel
theorem dX0_name_35 : decode cX0_name 35 = .ok (.return_, 1) := by decide +kernel
theorem dX0_name_36 : decode cX0_name 36 = .ok (.aload_n 0, 1) := by decide +kernel
theorem dX0_name_37 : decode cX0_name 37 = .ok (.iload_n 2, 1) := by decide +kernel
theorem dX0_name_38 : decode cX0_name 38 = .ok (.invokevirtual 131, 3) := by decide +kernel
theorem dX0_name_41 : decode cX0_name 41 = .ok (.aload_n 0, 1) := by decide +kernel
theorem dX0_name_42 : decode cX0_name 42 = .ok (.aload_n 0, 1) := by decide +kernel
theorem dX0_name_43 : decode cX0_name 43 = .ok (.aload_n 0, 1) := by decide +kernel
theorem dX0_name_44 : decode cX0_name 44 = .ok (.getfield 30, 3) := by decide +kernel
theorem dX0_name_47 : decode cX0_name 47 = .ok (.iload_n 2, 1) := by decide +kernel
theorem dX0_name_48 : decode cX0_name 48 = .ok (.iaload, 1) := by decide +kernel
theorem dX0_name_49 : decode cX0_name 49 = .ok (.invokevirtual 134, 3) := by decide +kernel
theorem dX0_name_52 : decode cX0_name 52 = .ok (.invokevirtual 151, 3) := by decide +kernel
theorem dX0_name_55 : decode cX0_name 55 = .ok (.istore_n 3, 1) := by decide +kernel
theorem dX0_name_56 : decode cX0_name 56 = .ok (.aload_n 0, 1) := by decide +kernel
theorem dX0_name_57 : decode cX0_name 57 = .ok (.getfield 30, 3) := by decide +kernel
theorem dX0_name_60 : decode cX0_name 60 = .ok (.iload_n 1, 1) := by decide +kernel
theorem dX0_name_61 : decode cX0_name 61 = .ok (.iload_n 3, 1) := by decide +kernel
theorem dX0_name_62 : decode cX0_name 62 = .ok (.iconst (-1), 1) := by decide +kernel
theorem dX0_name_63 : decode cX0_name 63 = .ok (.if_icmp .ne 11, 3) := by decide +kernel
theorem dX0_name_66 : decode cX0_name 66 = .ok (.aload_n 0, 1) := by decide +kernel
theorem dX0_name_67 : decode cX0_name 67 = .ok (.iload_n 2, 1) := by decide +kernel
theorem dX0_name_68 : decode cX0_name 68 = .ok (.invokevirtual 154, 3) := by decide +kernel
theorem dX0_name_71 : decode cX0_name 71 = .ok (.goto 4, 3) := by decide +kernel
theorem dX0_name_74 : decode cX0_name 74 = .ok (.iload_n 3, 1) := by decide +kernel
theorem dX0_name_75 : decode cX0_name 75 = .ok (.iastore, 1) := by decide +kernel
theorem dX0_name_76 : decode cX0_name 76 = .ok (.return_, 1) := by decide +kernel
set_option maxRecDepth 20000 in
theorem ggX0_collect_X0_slideTogether : GoodIn wsX0_collect wsX0_slideTogether := goodIn_r _ [6, 1, 7, 8, 9, 10, 11, 12, 13, 14, 15, 5, 16, 17, 18, 19, 20, 21, 22, 23, 24, 25, 26, 27, 28, 29, 30, 31, 32, 33, 34, 35, 36, 37, 38, 39, 40, 41, 42, 43, 44, 45, 46, 47, 48, 49, 50, 51, 52, 53, 54, 55, 56, 57, 58, 59, 60, 61, 62, 63, 64, 65, 66, 67, 68, 69] (by decide +kernel) (by decide +kernel)
set_option maxRecDepth 20000 in
theorem gX0_collect_X0_slideTogether : GoodIn wsX0_collect (wsV RX0 157 RX0 yX0_slideTogether wsX0_slideTogether) := goodIn_app (goodIn_of _ (by decide +kernel)) ggX0_collect_X0_slideTogether
theorem dX0_collect_0 : decode cX0_collect 0 = .ok (.aload_n 0, 1) := by decide +kernel
theorem dX0_collect_1 : decode cX0_collect 1 = .ok (.invokevirtual 157, 3) := by decide +kernel
theorem dX0_collect_4 : decode cX0_collect 4 = .ok (.aload_n 0, 1) := by decide +kernel
theorem dX0_collect_5 : decode cX0_collect 5 = .ok (.getfield 27, 3) := by decide +kernel
theorem dX0_collect_8 : decode cX0_collect 8 = .ok (.ireturn, 1) := by decide +kernel
theorem dX0_stress_0 : decode cX0_stress 0 = .ok (.iload_n 1, 1) := by decide +kernel
theorem dX0_stress_1 : decode cX0_stress 1 = .ok (.ifCond .ge 13, 3) := by decide +kernel
theorem dX0_stress_4 : decode cX0_stress 4 = .ok (.new 65, 3) := by decide +kernel
theorem dX0_stress_7 : decode cX0_stress 7 = .ok (.dup, 1) := by decide +kernel
theorem dX0_stress_8 : decode cX0_stress 8 = .ok (.ldc 160, 2) := by decide +kernel
theorem dX0_stress_10 : decode cX0_stress 10 = .ok (.invokespecial 69, 3) := by decide +kernel
theorem dX0_stress_13 : decode cX0_stress 13 = .ok (.athrow, 1) := by decide +kernel
theorem dX0_stress_14 : decode cX0_stress 14 = .ok (.aload_n 0, 1) := by decide +kernel
theorem dX0_stress_15 : decode cX0_stress 15 = .ok (.iload_n 1, 1) := by decide +kernel
theorem dX0_stress_16 : decode cX0_stress 16 = .ok (.putfield 51, 3) := by decide +kernel
theorem dX0_stress_19 : decode cX0_stress 19 = .ok (.aload_n 0, 1) := by decide +kernel
theorem dX0_stress_20 : decode cX0_stress 20 = .ok (.iconst 0, 1) := by decide +kernel
theorem dX0_stress_21 : decode cX0_stress 21 = .ok (.putfield 54, 3) := by decide +kernel
theorem dX0_stress_24 : decode cX0_stress 24 = .ok (.return_, 1) := by decide +kernel
theorem dX0_isUpTo_0 : decode cX0_isUpTo 0 = .ok (.iload_n 0, 1) := by decide +kernel
theorem dX0_isUpTo_1 : decode cX0_isUpTo 1 = .ok (.ifCond .lt 12, 3) := by decide +kernel
theorem dX0_isUpTo_4 : decode cX0_isUpTo 4 = .ok (.iload_n 0, 1) := by decide +kernel
theorem dX0_isUpTo_5 : decode cX0_isUpTo 5 = .ok (.iload_n 1, 1) := by decide +kernel
theorem dX0_isUpTo_6 : decode cX0_isUpTo 6 = .ok (.if_icmp .gt 7, 3) := by decide +kernel
theorem dX0_isUpTo_9 : decode cX0_isUpTo 9 = .ok (.iconst 1, 1) := by decide +kernel
theorem dX0_isUpTo_10 : decode cX0_isUpTo 10 = .ok (.goto 4, 3) := by decide +kernel
theorem dX0_isUpTo_13 : decode cX0_isUpTo 13 = .ok (.iconst 0, 1) := by decide +kernel
theorem dX0_isUpTo_14 : decode cX0_isUpTo 14 = .ok (.ireturn, 1) := by decide +kernel
theorem dX0_needRoot_0 : decode cX0_needRoot 0 = .ok (.iload_n 0, 1) := by decide +kernel
theorem dX0_needRoot_1 : decode cX0_needRoot 1 = .ok (.ifCond .lt 9, 3) := by decide +kernel
theorem dX0_needRoot_4 : decode cX0_needRoot 4 = .ok (.iload_n 0, 1) := by decide +kernel
theorem dX0_needRoot_5 : decode cX0_needRoot 5 = .ok (.bipush 24, 2) := by decide +kernel
theorem dX0_needRoot_7 : decode cX0_needRoot 7 = .ok (.if_icmp .lt 13, 3) := by decide +kernel
theorem dX0_needRoot_10 : decode cX0_needRoot 10 = .ok (.new 65, 3) := by decide +kernel
theorem dX0_needRoot_13 : decode cX0_needRoot 13 = .ok (.dup, 1) := by decide +kernel
theorem dX0_needRoot_14 : decode cX0_needRoot 14 = .ok (.ldc 162, 2) := by decide +kernel
theorem dX0_needRoot_16 : decode cX0_needRoot 16 = .ok (.invokespecial 69, 3) := by decide +kernel
theorem dX0_needRoot_19 : decode cX0_needRoot 19 = .ok (.athrow, 1) := by decide +kernel
theorem dX0_needRoot_20 : decode cX0_needRoot 20 = .ok (.return_, 1) := by decide +kernel
