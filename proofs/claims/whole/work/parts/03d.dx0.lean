set_option maxRecDepth 20000 in
theorem ggX0_makeJoined_X0_make : GoodIn wsX0_makeJoined wsX0_make := goodIn_ca (goodIn_r _ [7, 8, 9, 1, 10, 11, 12, 13, 14, 15, 6, 16, 17, 18, 19, 20, 21, 22, 23, 24, 25, 26, 27, 28, 29, 30, 2, 31, 32, 33, 34, 35, 36, 37, 38, 39, 40, 41, 42, 43, 44, 45, 46, 47, 48, 49, 50, 51, 52, 53, 54, 55, 56, 57, 58, 59, 60, 61, 62, 63, 64, 65, 66, 67, 68, 69, 70, 71, 72, 73, 74, 75, 76, 77, 78, 79, 80, 81, 82, 83, 84, 85, 86, 87, 88, 89, 90, 91, 92, 93, 94, 95, 96, 97, 98, 99, 100, 101, 102, 103, 104, 117, 118, 119, 120, 121, 122, 123, 124, 125, 126, 127, 128, 129, 130] (by decide +kernel) (by decide +kernel)) (goodIn_sub (fun _ h => List.mem_cons_of_mem _ (List.mem_append_right _ h)) (by decide +kernel))
set_option maxRecDepth 20000 in
theorem gX0_makeJoined_X0_make : GoodIn wsX0_makeJoined (wsV RX0 72 RX0 yX0_make wsX0_make) := goodIn_app (goodIn_of _ (by decide +kernel)) ggX0_makeJoined_X0_make
set_option maxRecDepth 20000 in
theorem ggX0_makeJoined_X0_lengthIn : GoodIn wsX0_makeJoined wsX0_lengthIn := goodIn_r _ [108, 2, 109, 110, 111, 6, 112, 1, 39, 40, 41, 42, 117, 118, 119, 120, 121, 122, 123, 124, 125, 126] (by decide +kernel) (by decide +kernel)
set_option maxRecDepth 20000 in
theorem gX0_makeJoined_X0_lengthIn : GoodIn wsX0_makeJoined (wsV RX0 115 RX0 yX0_lengthIn wsX0_lengthIn) := goodIn_app (goodIn_of _ (by decide +kernel)) ggX0_makeJoined_X0_lengthIn
set_option maxRecDepth 20000 in
theorem ggX0_makeJoined_X0_putLength : GoodIn wsX0_makeJoined wsX0_putLength := goodIn_r _ [116, 1, 39, 40, 41, 6, 42, 117, 118, 119, 120, 121, 122, 123, 124, 125, 126] (by decide +kernel) (by decide +kernel)
set_option maxRecDepth 20000 in
theorem gX0_makeJoined_X0_putLength : GoodIn wsX0_makeJoined (wsV RX0 190 RX0 yX0_putLength wsX0_putLength) := goodIn_app (goodIn_of _ (by decide +kernel)) ggX0_makeJoined_X0_putLength
theorem dX0_makeJoined_0 : decode cX0_makeJoined 0 = .ok (.aload_n 0, 1) := by decide +kernel
theorem dX0_makeJoined_1 : decode cX0_makeJoined 1 = .ok (.iconst 3, 1) := by decide +kernel
theorem dX0_makeJoined_2 : decode cX0_makeJoined 2 = .ok (.iconst 2, 1) := by decide +kernel
theorem dX0_makeJoined_3 : decode cX0_makeJoined 3 = .ok (.iconst 0, 1) := by decide +kernel
theorem dX0_makeJoined_4 : decode cX0_makeJoined 4 = .ok (.iconst 1, 1) := by decide +kernel
theorem dX0_makeJoined_5 : decode cX0_makeJoined 5 = .ok (.invokevirtual 72, 3) := by decide +kernel
theorem dX0_makeJoined_8 : decode cX0_makeJoined 8 = .ok (.istore_n 3, 1) := by decide +kernel
theorem dX0_makeJoined_9 : decode cX0_makeJoined 9 = .ok (.aload_n 0, 1) := by decide +kernel
theorem dX0_makeJoined_10 : decode cX0_makeJoined 10 = .ok (.iload_n 3, 1) := by decide +kernel
theorem dX0_makeJoined_11 : decode cX0_makeJoined 11 = .ok (.aload_n 0, 1) := by decide +kernel
theorem dX0_makeJoined_12 : decode cX0_makeJoined 12 = .ok (.iload_n 1, 1) := by decide +kernel
theorem dX0_makeJoined_13 : decode cX0_makeJoined 13 = .ok (.invokevirtual 115, 3) := by decide +kernel
theorem dX0_makeJoined_16 : decode cX0_makeJoined 16 = .ok (.aload_n 0, 1) := by decide +kernel
theorem dX0_makeJoined_17 : decode cX0_makeJoined 17 = .ok (.iload_n 2, 1) := by decide +kernel
theorem dX0_makeJoined_18 : decode cX0_makeJoined 18 = .ok (.invokevirtual 115, 3) := by decide +kernel
theorem dX0_makeJoined_21 : decode cX0_makeJoined 21 = .ok (.iadd, 1) := by decide +kernel
theorem dX0_makeJoined_22 : decode cX0_makeJoined 22 = .ok (.invokevirtual 190, 3) := by decide +kernel
theorem dX0_makeJoined_25 : decode cX0_makeJoined 25 = .ok (.aload_n 0, 1) := by decide +kernel
theorem dX0_makeJoined_26 : decode cX0_makeJoined 26 = .ok (.getfield 23, 3) := by decide +kernel
theorem dX0_makeJoined_29 : decode cX0_makeJoined 29 = .ok (.iload_n 3, 1) := by decide +kernel
theorem dX0_makeJoined_30 : decode cX0_makeJoined 30 = .ok (.iconst 3, 1) := by decide +kernel
theorem dX0_makeJoined_31 : decode cX0_makeJoined 31 = .ok (.iadd, 1) := by decide +kernel
theorem dX0_makeJoined_32 : decode cX0_makeJoined 32 = .ok (.aload_n 0, 1) := by decide +kernel
theorem dX0_makeJoined_33 : decode cX0_makeJoined 33 = .ok (.getfield 30, 3) := by decide +kernel
theorem dX0_makeJoined_36 : decode cX0_makeJoined 36 = .ok (.iload_n 1, 1) := by decide +kernel
theorem dX0_makeJoined_37 : decode cX0_makeJoined 37 = .ok (.iaload, 1) := by decide +kernel
theorem dX0_makeJoined_38 : decode cX0_makeJoined 38 = .ok (.iastore, 1) := by decide +kernel
theorem dX0_makeJoined_39 : decode cX0_makeJoined 39 = .ok (.aload_n 0, 1) := by decide +kernel
theorem dX0_makeJoined_40 : decode cX0_makeJoined 40 = .ok (.getfield 23, 3) := by decide +kernel
theorem dX0_makeJoined_43 : decode cX0_makeJoined 43 = .ok (.iload_n 3, 1) := by decide +kernel
theorem dX0_makeJoined_44 : decode cX0_makeJoined 44 = .ok (.iconst 4, 1) := by decide +kernel
theorem dX0_makeJoined_45 : decode cX0_makeJoined 45 = .ok (.iadd, 1) := by decide +kernel
theorem dX0_makeJoined_46 : decode cX0_makeJoined 46 = .ok (.aload_n 0, 1) := by decide +kernel
theorem dX0_makeJoined_47 : decode cX0_makeJoined 47 = .ok (.getfield 30, 3) := by decide +kernel
theorem dX0_makeJoined_50 : decode cX0_makeJoined 50 = .ok (.iload_n 2, 1) := by decide +kernel
theorem dX0_makeJoined_51 : decode cX0_makeJoined 51 = .ok (.iaload, 1) := by decide +kernel
theorem dX0_makeJoined_52 : decode cX0_makeJoined 52 = .ok (.iastore, 1) := by decide +kernel
theorem dX0_makeJoined_53 : decode cX0_makeJoined 53 = .ok (.iload_n 3, 1) := by decide +kernel
theorem dX0_makeJoined_54 : decode cX0_makeJoined 54 = .ok (.ireturn, 1) := by decide +kernel
set_option maxRecDepth 20000 in
theorem ggX0_goOver_X0_kindAt : GoodIn wsX0_goOver wsX0_kindAt := goodIn_r _ [7, 2, 147, 148, 149, 150, 151, 152, 153, 154, 155, 156] (by decide +kernel) (by decide +kernel)
set_option maxRecDepth 20000 in
theorem gX0_goOver_X0_kindAt : GoodIn wsX0_goOver (wsV RX0 76 RX0 yX0_kindAt wsX0_kindAt) := goodIn_app (goodIn_of _ (by decide +kernel)) ggX0_goOver_X0_kindAt
set_option maxRecDepth 20000 in
theorem ggX0_goOver_X0_lengthIn : GoodIn wsX0_goOver wsX0_lengthIn := goodIn_r _ [11, 1, 12, 13, 14, 6, 15, 2, 16, 17, 18, 19, 147, 148, 149, 150, 151, 152, 153, 154, 155, 156] (by decide +kernel) (by decide +kernel)
set_option maxRecDepth 20000 in
theorem gX0_goOver_X0_lengthIn : GoodIn wsX0_goOver (wsV RX0 115 RX0 yX0_lengthIn wsX0_lengthIn) := goodIn_app (goodIn_of _ (by decide +kernel)) ggX0_goOver_X0_lengthIn
set_option maxRecDepth 20000 in
theorem ggX0_goOver_X0_makeFlat : GoodIn wsX0_goOver wsX0_makeFlat := goodIn_ca (goodIn_r _ [23, 24, 25, 26, 6, 27, 28, 29, 2, 30, 31, 32, 33, 34, 35, 36, 37, 38, 39, 40, 41, 42, 43, 44, 45, 46, 47, 48, 49, 50, 1, 51, 52, 53, 54, 55, 56, 57, 58, 16, 17, 18, 19, 59, 60, 61, 62, 63, 64, 65, 66, 67, 68, 69, 70, 71, 72, 73, 74, 75, 76, 77, 78, 79, 80, 81, 82, 83, 84, 85, 86, 87, 88, 89, 90, 91, 92, 93, 94, 95, 96, 97, 98, 99, 100, 101, 102, 103, 104, 105, 106, 107, 108, 109, 110, 111, 112, 113, 114, 115, 116, 117, 118, 119, 120, 121, 122, 123, 124, 147, 148, 149, 150, 151, 152, 153, 154, 155, 156, 157, 158, 159, 160] (by decide +kernel) (by decide +kernel)) (goodIn_sub (fun _ h => List.mem_cons_of_mem _ (List.mem_append_right _ h)) (by decide +kernel))
set_option maxRecDepth 20000 in
theorem gX0_goOver_X0_makeFlat : GoodIn wsX0_goOver (wsV RX0 104 RX0 yX0_makeFlat wsX0_makeFlat) := goodIn_app (goodIn_of _ (by decide +kernel)) ggX0_goOver_X0_makeFlat
set_option maxRecDepth 20000 in
theorem ggX0_goOver_X0_copyAllUnits : GoodIn wsX0_goOver wsX0_copyAllUnits := goodIn_r _ [128, 129, 2, 3, 4, 5, 6, 7, 130, 131, 132, 133, 12, 13, 14, 15, 16, 17, 18, 19, 134, 135, 136, 137, 138, 139, 140, 141, 142, 143, 144, 145, 146, 147, 148, 149, 150, 151, 152, 153, 154, 155, 156] (by decide +kernel) (by decide +kernel)
set_option maxRecDepth 20000 in
theorem gX0_goOver_X0_copyAllUnits : GoodIn wsX0_goOver (wsV RX0 194 RX0 yX0_copyAllUnits wsX0_copyAllUnits) := goodIn_app (goodIn_of _ (by decide +kernel)) ggX0_goOver_X0_copyAllUnits
set_option maxRecDepth 20000 in
theorem ggX0_goOver_X0_sizeAt : GoodIn wsX0_goOver wsX0_sizeAt := goodIn_r _ [74, 2, 147, 148, 149, 150, 151, 152, 153, 154, 155, 156] (by decide +kernel) (by decide +kernel)
set_option maxRecDepth 20000 in
theorem gX0_goOver_X0_sizeAt : GoodIn wsX0_goOver (wsV RX0 181 RX0 yX0_sizeAt wsX0_sizeAt) := goodIn_app (goodIn_of _ (by decide +kernel)) ggX0_goOver_X0_sizeAt
set_option maxRecDepth 20000 in
theorem ggX0_goOver_X0_shapeOf : GoodIn wsX0_goOver wsX0_shapeOf := goodIn_r _ [120] (by decide +kernel) (by decide +kernel)
set_option maxRecDepth 20000 in
theorem gX0_goOver_X0_shapeOf : GoodIn wsX0_goOver (va_wsS RX0 197 yX0_shapeOf wsX0_shapeOf) := goodIn_app (goodIn_of _ (by decide +kernel)) ggX0_goOver_X0_shapeOf
theorem dX0_goOver_0 : decode cX0_goOver 0 = .ok (.aload_n 0, 1) := by decide +kernel
theorem dX0_goOver_1 : decode cX0_goOver 1 = .ok (.aload_n 0, 1) := by decide +kernel
theorem dX0_goOver_2 : decode cX0_goOver 2 = .ok (.getfield 30, 3) := by decide +kernel
theorem dX0_goOver_5 : decode cX0_goOver 5 = .ok (.iload_n 1, 1) := by decide +kernel
theorem dX0_goOver_6 : decode cX0_goOver 6 = .ok (.iaload, 1) := by decide +kernel
theorem dX0_goOver_7 : decode cX0_goOver 7 = .ok (.invokevirtual 76, 3) := by decide +kernel
theorem dX0_goOver_10 : decode cX0_goOver 10 = .ok (.iconst 3, 1) := by decide +kernel
theorem dX0_goOver_11 : decode cX0_goOver 11 = .ok (.if_icmp .eq 4, 3) := by decide +kernel
theorem dX0_goOver_14 : decode cX0_goOver 14 = .ok (.return_, 1) := by decide +kernel
theorem dX0_goOver_15 : decode cX0_goOver 15 = .ok (.aload_n 0, 1) := by decide +kernel
theorem dX0_goOver_16 : decode cX0_goOver 16 = .ok (.iconst 2, 1) := by decide +kernel
theorem dX0_goOver_17 : decode cX0_goOver 17 = .ok (.aload_n 0, 1) := by decide +kernel
theorem dX0_goOver_18 : decode cX0_goOver 18 = .ok (.iload_n 1, 1) := by decide +kernel
theorem dX0_goOver_19 : decode cX0_goOver 19 = .ok (.invokevirtual 115, 3) := by decide +kernel
theorem dX0_goOver_22 : decode cX0_goOver 22 = .ok (.invokevirtual 104, 3) := by decide +kernel
theorem dX0_goOver_25 : decode cX0_goOver 25 = .ok (.istore_n 2, 1) := by decide +kernel
theorem dX0_goOver_26 : decode cX0_goOver 26 = .ok (.aload_n 0, 1) := by decide +kernel
theorem dX0_goOver_27 : decode cX0_goOver 27 = .ok (.getfield 30, 3) := by decide +kernel
theorem dX0_goOver_30 : decode cX0_goOver 30 = .ok (.iload_n 1, 1) := by decide +kernel
theorem dX0_goOver_31 : decode cX0_goOver 31 = .ok (.iaload, 1) := by decide +kernel
theorem dX0_goOver_32 : decode cX0_goOver 32 = .ok (.istore_n 3, 1) := by decide +kernel
theorem dX0_goOver_33 : decode cX0_goOver 33 = .ok (.aload_n 0, 1) := by decide +kernel
theorem dX0_goOver_34 : decode cX0_goOver 34 = .ok (.iload_n 3, 1) := by decide +kernel
theorem dX0_goOver_35 : decode cX0_goOver 35 = .ok (.iload_n 2, 1) := by decide +kernel
theorem dX0_goOver_36 : decode cX0_goOver 36 = .ok (.invokevirtual 194, 3) := by decide +kernel
theorem dX0_goOver_39 : decode cX0_goOver 39 = .ok (.aload_n 0, 1) := by decide +kernel
theorem dX0_goOver_40 : decode cX0_goOver 40 = .ok (.getfield 23, 3) := by decide +kernel
theorem dX0_goOver_43 : decode cX0_goOver 43 = .ok (.iload_n 3, 1) := by decide +kernel
theorem dX0_goOver_44 : decode cX0_goOver 44 = .ok (.iconst 0, 1) := by decide +kernel
theorem dX0_goOver_45 : decode cX0_goOver 45 = .ok (.iadd, 1) := by decide +kernel
theorem dX0_goOver_46 : decode cX0_goOver 46 = .ok (.iconst 4, 1) := by decide +kernel
theorem dX0_goOver_47 : decode cX0_goOver 47 = .ok (.iconst 2, 1) := by decide +kernel
theorem dX0_goOver_48 : decode cX0_goOver 48 = .ok (.iconst 0, 1) := by decide +kernel
theorem dX0_goOver_49 : decode cX0_goOver 49 = .ok (.aload_n 0, 1) := by decide +kernel
theorem dX0_goOver_50 : decode cX0_goOver 50 = .ok (.iload_n 3, 1) := by decide +kernel
theorem dX0_goOver_51 : decode cX0_goOver 51 = .ok (.invokevirtual 181, 3) := by decide +kernel
theorem dX0_goOver_54 : decode cX0_goOver 54 = .ok (.invokestatic 197, 3) := by decide +kernel
theorem dX0_goOver_57 : decode cX0_goOver 57 = .ok (.iastore, 1) := by decide +kernel
theorem dX0_goOver_58 : decode cX0_goOver 58 = .ok (.aload_n 0, 1) := by decide +kernel
theorem dX0_goOver_59 : decode cX0_goOver 59 = .ok (.getfield 23, 3) := by decide +kernel
theorem dX0_goOver_62 : decode cX0_goOver 62 = .ok (.iload_n 3, 1) := by decide +kernel
theorem dX0_goOver_63 : decode cX0_goOver 63 = .ok (.iconst 3, 1) := by decide +kernel
theorem dX0_goOver_64 : decode cX0_goOver 64 = .ok (.iadd, 1) := by decide +kernel
theorem dX0_goOver_65 : decode cX0_goOver 65 = .ok (.iload_n 2, 1) := by decide +kernel
theorem dX0_goOver_66 : decode cX0_goOver 66 = .ok (.iastore, 1) := by decide +kernel
theorem dX0_goOver_67 : decode cX0_goOver 67 = .ok (.aload_n 0, 1) := by decide +kernel
theorem dX0_goOver_68 : decode cX0_goOver 68 = .ok (.getfield 23, 3) := by decide +kernel
theorem dX0_goOver_71 : decode cX0_goOver 71 = .ok (.iload_n 3, 1) := by decide +kernel
theorem dX0_goOver_72 : decode cX0_goOver 72 = .ok (.iconst 4, 1) := by decide +kernel
theorem dX0_goOver_73 : decode cX0_goOver 73 = .ok (.iadd, 1) := by decide +kernel
theorem dX0_goOver_74 : decode cX0_goOver 74 = .ok (.iconst (-1), 1) := by decide +kernel
theorem dX0_goOver_75 : decode cX0_goOver 75 = .ok (.iastore, 1) := by decide +kernel
theorem dX0_goOver_76 : decode cX0_goOver 76 = .ok (.return_, 1) := by decide +kernel
set_option maxRecDepth 20000 in
theorem ggX0_copyAllUnits_X0_kindAt : GoodIn wsX0_copyAllUnits wsX0_kindAt := goodIn_r _ [7, 2, 33, 34, 35, 36, 37, 38, 39, 40, 41, 42] (by decide +kernel) (by decide +kernel)
set_option maxRecDepth 20000 in
theorem gX0_copyAllUnits_X0_kindAt : GoodIn wsX0_copyAllUnits (wsV RX0 76 RX0 yX0_kindAt wsX0_kindAt) := goodIn_app (goodIn_of _ (by decide +kernel)) ggX0_copyAllUnits_X0_kindAt
set_option maxRecDepth 20000 in
theorem ggX0_copyAllUnits_X0_flatOf : GoodIn wsX0_copyAllUnits wsX0_flatOf := goodIn_r _ [11, 2, 3, 4, 5, 6, 7, 33, 34, 35, 36, 37, 38, 39, 40, 41, 42] (by decide +kernel) (by decide +kernel)
set_option maxRecDepth 20000 in
theorem gX0_copyAllUnits_X0_flatOf : GoodIn wsX0_copyAllUnits (wsV RX0 134 RX0 yX0_flatOf wsX0_flatOf) := goodIn_app (goodIn_of _ (by decide +kernel)) ggX0_copyAllUnits_X0_flatOf
set_option maxRecDepth 20000 in
theorem ggX0_copyAllUnits_X0_lengthAt : GoodIn wsX0_copyAllUnits wsX0_lengthAt := goodIn_r _ [15, 2, 16, 17, 18, 6, 19, 33, 34, 35, 36, 37, 38, 39, 40, 41, 42] (by decide +kernel) (by decide +kernel)
set_option maxRecDepth 20000 in
theorem gX0_copyAllUnits_X0_lengthAt : GoodIn wsX0_copyAllUnits (wsV RX0 187 RX0 yX0_lengthAt wsX0_lengthAt) := goodIn_app (goodIn_of _ (by decide +kernel)) ggX0_copyAllUnits_X0_lengthAt
set_option maxRecDepth 20000 in
theorem ggX0_copyAllUnits_X0_copyUnits : GoodIn wsX0_copyAllUnits wsX0_copyUnits := goodIn_r _ [23, 24, 25, 26, 6, 27, 2, 28, 29, 30, 31, 32, 33, 34, 35, 36, 37, 38, 39, 40, 41, 42] (by decide +kernel) (by decide +kernel)
set_option maxRecDepth 20000 in
theorem gX0_copyAllUnits_X0_copyUnits : GoodIn wsX0_copyAllUnits (wsV RX0 137 RX0 yX0_copyUnits wsX0_copyUnits) := goodIn_app (goodIn_of _ (by decide +kernel)) ggX0_copyAllUnits_X0_copyUnits
theorem dX0_copyAllUnits_0 : decode cX0_copyAllUnits 0 = .ok (.iconst 0, 1) := by decide +kernel
theorem dX0_copyAllUnits_1 : decode cX0_copyAllUnits 1 = .ok (.istore_n 3, 1) := by decide +kernel
theorem dX0_copyAllUnits_2 : decode cX0_copyAllUnits 2 = .ok (.iconst 1, 1) := by decide +kernel
theorem dX0_copyAllUnits_3 : decode cX0_copyAllUnits 3 = .ok (.istore 4, 2) := by decide +kernel
theorem dX0_copyAllUnits_5 : decode cX0_copyAllUnits 5 = .ok (.aload_n 0, 1) := by decide +kernel
theorem dX0_copyAllUnits_6 : decode cX0_copyAllUnits 6 = .ok (.getfield 45, 3) := by decide +kernel
theorem dX0_copyAllUnits_9 : decode cX0_copyAllUnits 9 = .ok (.iconst 0, 1) := by decide +kernel
theorem dX0_copyAllUnits_10 : decode cX0_copyAllUnits 10 = .ok (.iload_n 1, 1) := by decide +kernel
theorem dX0_copyAllUnits_11 : decode cX0_copyAllUnits 11 = .ok (.iastore, 1) := by decide +kernel
theorem dX0_copyAllUnits_12 : decode cX0_copyAllUnits 12 = .ok (.sipush 8000, 3) := by decide +kernel
theorem dX0_copyAllUnits_15 : decode cX0_copyAllUnits 15 = .ok (.istore 5, 2) := by decide +kernel
theorem dX0_copyAllUnits_17 : decode cX0_copyAllUnits 17 = .ok (.iload 5, 2) := by decide +kernel
theorem dX0_copyAllUnits_19 : decode cX0_copyAllUnits 19 = .ok (.ifCond .le 114, 3) := by decide +kernel
theorem dX0_copyAllUnits_22 : decode cX0_copyAllUnits 22 = .ok (.iload 4, 2) := by decide +kernel
theorem dX0_copyAllUnits_24 : decode cX0_copyAllUnits 24 = .ok (.ifCond .le 109, 3) := by decide +kernel
theorem dX0_copyAllUnits_27 : decode cX0_copyAllUnits 27 = .ok (.iload 4, 2) := by decide +kernel
theorem dX0_copyAllUnits_29 : decode cX0_copyAllUnits 29 = .ok (.sipush 4000, 3) := by decide +kernel
theorem dX0_copyAllUnits_32 : decode cX0_copyAllUnits 32 = .ok (.if_icmp .ge 101, 3) := by decide +kernel
theorem dX0_copyAllUnits_35 : decode cX0_copyAllUnits 35 = .ok (.aload_n 0, 1) := by decide +kernel
theorem dX0_copyAllUnits_36 : decode cX0_copyAllUnits 36 = .ok (.getfield 45, 3) := by decide +kernel
theorem dX0_copyAllUnits_39 : decode cX0_copyAllUnits 39 = .ok (.iload 4, 2) := by decide +kernel
theorem dX0_copyAllUnits_41 : decode cX0_copyAllUnits 41 = .ok (.iconst 1, 1) := by decide +kernel
theorem dX0_copyAllUnits_42 : decode cX0_copyAllUnits 42 = .ok (.isub, 1) := by decide +kernel
theorem dX0_copyAllUnits_43 : decode cX0_copyAllUnits 43 = .ok (.iaload, 1) := by decide +kernel
theorem dX0_copyAllUnits_44 : decode cX0_copyAllUnits 44 = .ok (.istore 6, 2) := by decide +kernel
theorem dX0_copyAllUnits_46 : decode cX0_copyAllUnits 46 = .ok (.aload_n 0, 1) := by decide +kernel
theorem dX0_copyAllUnits_47 : decode cX0_copyAllUnits 47 = .ok (.iload 6, 2) := by decide +kernel
theorem dX0_copyAllUnits_49 : decode cX0_copyAllUnits 49 = .ok (.invokevirtual 76, 3) := by decide +kernel
theorem dX0_copyAllUnits_52 : decode cX0_copyAllUnits 52 = .ok (.iconst 3, 1) := by decide +kernel
theorem dX0_copyAllUnits_53 : decode cX0_copyAllUnits 53 = .ok (.if_icmp .ne 43, 3) := by decide +kernel
theorem dX0_copyAllUnits_56 : decode cX0_copyAllUnits 56 = .ok (.aload_n 0, 1) := by decide +kernel
theorem dX0_copyAllUnits_57 : decode cX0_copyAllUnits 57 = .ok (.getfield 45, 3) := by decide +kernel
theorem dX0_copyAllUnits_60 : decode cX0_copyAllUnits 60 = .ok (.iload 4, 2) := by decide +kernel
theorem dX0_copyAllUnits_62 : decode cX0_copyAllUnits 62 = .ok (.iconst 1, 1) := by decide +kernel
theorem dX0_copyAllUnits_63 : decode cX0_copyAllUnits 63 = .ok (.isub, 1) := by decide +kernel
theorem dX0_copyAllUnits_64 : decode cX0_copyAllUnits 64 = .ok (.aload_n 0, 1) := by decide +kernel
theorem dX0_copyAllUnits_65 : decode cX0_copyAllUnits 65 = .ok (.getfield 23, 3) := by decide +kernel
theorem dX0_copyAllUnits_68 : decode cX0_copyAllUnits 68 = .ok (.iload 6, 2) := by decide +kernel
theorem dX0_copyAllUnits_70 : decode cX0_copyAllUnits 70 = .ok (.iconst 4, 1) := by decide +kernel
theorem dX0_copyAllUnits_71 : decode cX0_copyAllUnits 71 = .ok (.iadd, 1) := by decide +kernel
theorem dX0_copyAllUnits_72 : decode cX0_copyAllUnits 72 = .ok (.iaload, 1) := by decide +kernel
theorem dX0_copyAllUnits_73 : decode cX0_copyAllUnits 73 = .ok (.iastore, 1) := by decide +kernel
theorem dX0_copyAllUnits_74 : decode cX0_copyAllUnits 74 = .ok (.aload_n 0, 1) := by decide +kernel
theorem dX0_copyAllUnits_75 : decode cX0_copyAllUnits 75 = .ok (.getfield 45, 3) := by decide +kernel
theorem dX0_copyAllUnits_78 : decode cX0_copyAllUnits 78 = .ok (.iload 4, 2) := by decide +kernel
theorem dX0_copyAllUnits_80 : decode cX0_copyAllUnits 80 = .ok (.aload_n 0, 1) := by decide +kernel
theorem dX0_copyAllUnits_81 : decode cX0_copyAllUnits 81 = .ok (.getfield 23, 3) := by decide +kernel
theorem dX0_copyAllUnits_84 : decode cX0_copyAllUnits 84 = .ok (.iload 6, 2) := by decide +kernel
theorem dX0_copyAllUnits_86 : decode cX0_copyAllUnits 86 = .ok (.iconst 3, 1) := by decide +kernel
theorem dX0_copyAllUnits_87 : decode cX0_copyAllUnits 87 = .ok (.iadd, 1) := by decide +kernel
theorem dX0_copyAllUnits_88 : decode cX0_copyAllUnits 88 = .ok (.iaload, 1) := by decide +kernel
theorem dX0_copyAllUnits_89 : decode cX0_copyAllUnits 89 = .ok (.iastore, 1) := by decide +kernel
theorem dX0_copyAllUnits_90 : decode cX0_copyAllUnits 90 = .ok (.iinc 4 1, 3) := by decide +kernel
theorem dX0_copyAllUnits_93 : decode cX0_copyAllUnits 93 = .ok (.goto 34, 3) := by decide +kernel
theorem dX0_copyAllUnits_96 : decode cX0_copyAllUnits 96 = .ok (.aload_n 0, 1) := by decide +kernel
theorem dX0_copyAllUnits_97 : decode cX0_copyAllUnits 97 = .ok (.aload_n 0, 1) := by decide +kernel
theorem dX0_copyAllUnits_98 : decode cX0_copyAllUnits 98 = .ok (.iload 6, 2) := by decide +kernel
theorem dX0_copyAllUnits_100 : decode cX0_copyAllUnits 100 = .ok (.invokevirtual 134, 3) := by decide +kernel
theorem dX0_copyAllUnits_103 : decode cX0_copyAllUnits 103 = .ok (.iconst 0, 1) := by decide +kernel
theorem dX0_copyAllUnits_104 : decode cX0_copyAllUnits 104 = .ok (.aload_n 0, 1) := by decide +kernel
theorem dX0_copyAllUnits_105 : decode cX0_copyAllUnits 105 = .ok (.iload 6, 2) := by decide +kernel
theorem dX0_copyAllUnits_107 : decode cX0_copyAllUnits 107 = .ok (.invokevirtual 187, 3) := by decide +kernel
theorem dX0_copyAllUnits_110 : decode cX0_copyAllUnits 110 = .ok (.iload_n 2, 1) := by decide +kernel
theorem dX0_copyAllUnits_111 : decode cX0_copyAllUnits 111 = .ok (.iload_n 3, 1) := by decide +kernel
theorem dX0_copyAllUnits_112 : decode cX0_copyAllUnits 112 = .ok (.invokevirtual 137, 3) := by decide +kernel
theorem dX0_copyAllUnits_115 : decode cX0_copyAllUnits 115 = .ok (.iload_n 3, 1) := by decide +kernel
theorem dX0_copyAllUnits_116 : decode cX0_copyAllUnits 116 = .ok (.aload_n 0, 1) := by decide +kernel
theorem dX0_copyAllUnits_117 : decode cX0_copyAllUnits 117 = .ok (.iload 6, 2) := by decide +kernel
theorem dX0_copyAllUnits_119 : decode cX0_copyAllUnits 119 = .ok (.invokevirtual 187, 3) := by decide +kernel
theorem dX0_copyAllUnits_122 : decode cX0_copyAllUnits 122 = .ok (.iadd, 1) := by decide +kernel
theorem dX0_copyAllUnits_123 : decode cX0_copyAllUnits 123 = .ok (.istore_n 3, 1) := by decide +kernel
theorem dX0_copyAllUnits_124 : decode cX0_copyAllUnits 124 = .ok (.iinc 4 (-1), 3) := by decide +kernel
theorem dX0_copyAllUnits_127 : decode cX0_copyAllUnits 127 = .ok (.iinc 5 (-1), 3) := by decide +kernel
theorem dX0_copyAllUnits_130 : decode cX0_copyAllUnits 130 = .ok (.goto (-113), 3) := by decide +kernel
theorem dX0_copyAllUnits_133 : decode cX0_copyAllUnits 133 = .ok (.return_, 1) := by decide +kernel
set_option maxRecDepth 20000 in
theorem ggX0_findName_X0_hasSameUnits : GoodIn wsX0_findName wsX0_hasSameUnits := goodIn_r _ [7, 8, 9, 10, 11, 6, 12, 13, 14, 15, 16, 17, 18, 19, 20, 21, 22, 23, 24, 25, 26, 27, 28, 29, 30] (by decide +kernel) (by decide +kernel)
set_option maxRecDepth 20000 in
theorem gX0_findName_X0_hasSameUnits : GoodIn wsX0_findName (wsV RX0 200 RX0 yX0_hasSameUnits wsX0_hasSameUnits) := goodIn_app (goodIn_of _ (by decide +kernel)) ggX0_findName_X0_hasSameUnits
theorem dX0_findName_0 : decode cX0_findName 0 = .ok (.iconst 0, 1) := by decide +kernel
theorem dX0_findName_1 : decode cX0_findName 1 = .ok (.istore_n 2, 1) := by decide +kernel
theorem dX0_findName_2 : decode cX0_findName 2 = .ok (.iload_n 2, 1) := by decide +kernel
theorem dX0_findName_3 : decode cX0_findName 3 = .ok (.aload_n 0, 1) := by decide +kernel
theorem dX0_findName_4 : decode cX0_findName 4 = .ok (.getfield 42, 3) := by decide +kernel
theorem dX0_findName_7 : decode cX0_findName 7 = .ok (.if_icmp .ge 30, 3) := by decide +kernel
theorem dX0_findName_10 : decode cX0_findName 10 = .ok (.aload_n 0, 1) := by decide +kernel
theorem dX0_findName_11 : decode cX0_findName 11 = .ok (.aload_n 0, 1) := by decide +kernel
theorem dX0_findName_12 : decode cX0_findName 12 = .ok (.getfield 39, 3) := by decide +kernel
theorem dX0_findName_15 : decode cX0_findName 15 = .ok (.iload_n 2, 1) := by decide +kernel
theorem dX0_findName_16 : decode cX0_findName 16 = .ok (.iaload, 1) := by decide +kernel
theorem dX0_findName_17 : decode cX0_findName 17 = .ok (.iload_n 1, 1) := by decide +kernel
theorem dX0_findName_18 : decode cX0_findName 18 = .ok (.invokevirtual 200, 3) := by decide +kernel
theorem dX0_findName_21 : decode cX0_findName 21 = .ok (.ifCond .eq 10, 3) := by decide +kernel
theorem dX0_findName_24 : decode cX0_findName 24 = .ok (.aload_n 0, 1) := by decide +kernel
theorem dX0_findName_25 : decode cX0_findName 25 = .ok (.getfield 39, 3) := by decide +kernel
theorem dX0_findName_28 : decode cX0_findName 28 = .ok (.iload_n 2, 1) := by decide +kernel
theorem dX0_findName_29 : decode cX0_findName 29 = .ok (.iaload, 1) := by decide +kernel
theorem dX0_findName_30 : decode cX0_findName 30 = .ok (.ireturn, 1) := by decide +kernel
theorem dX0_findName_31 : decode cX0_findName 31 = .ok (.iinc 2 1, 3) := by decide +kernel
theorem dX0_findName_34 : decode cX0_findName 34 = .ok (.goto (-32), 3) := by decide +kernel
theorem dX0_findName_37 : decode cX0_findName 37 = .ok (.iconst (-1), 1) := by decide +kernel
theorem dX0_findName_38 : decode cX0_findName 38 = .ok (.ireturn, 1) := by decide +kernel
set_option maxRecDepth 20000 in
theorem ggX0_hasSameUnits_X0_lengthAt : GoodIn wsX0_hasSameUnits wsX0_lengthAt := goodIn_r _ [6, 1, 7, 8, 9, 5, 10, 15, 16, 17, 18, 19, 20, 21, 22, 23, 24] (by decide +kernel) (by decide +kernel)
set_option maxRecDepth 20000 in
theorem gX0_hasSameUnits_X0_lengthAt : GoodIn wsX0_hasSameUnits (wsV RX0 187 RX0 yX0_lengthAt wsX0_lengthAt) := goodIn_app (goodIn_of _ (by decide +kernel)) ggX0_hasSameUnits_X0_lengthAt
set_option maxRecDepth 20000 in
theorem ggX0_hasSameUnits_X0_sizeAt : GoodIn wsX0_hasSameUnits wsX0_sizeAt := goodIn_r _ [14, 1, 15, 16, 17, 18, 19, 20, 21, 22, 23, 24] (by decide +kernel) (by decide +kernel)
set_option maxRecDepth 20000 in
theorem gX0_hasSameUnits_X0_sizeAt : GoodIn wsX0_hasSameUnits (wsV RX0 181 RX0 yX0_sizeAt wsX0_sizeAt) := goodIn_app (goodIn_of _ (by decide +kernel)) ggX0_hasSameUnits_X0_sizeAt
theorem dX0_hasSameUnits_0 : decode cX0_hasSameUnits 0 = .ok (.aload_n 0, 1) := by decide +kernel
theorem dX0_hasSameUnits_1 : decode cX0_hasSameUnits 1 = .ok (.iload_n 1, 1) := by decide +kernel
theorem dX0_hasSameUnits_2 : decode cX0_hasSameUnits 2 = .ok (.invokevirtual 187, 3) := by decide +kernel
theorem dX0_hasSameUnits_5 : decode cX0_hasSameUnits 5 = .ok (.aload_n 0, 1) := by decide +kernel
theorem dX0_hasSameUnits_6 : decode cX0_hasSameUnits 6 = .ok (.iload_n 2, 1) := by decide +kernel
theorem dX0_hasSameUnits_7 : decode cX0_hasSameUnits 7 = .ok (.invokevirtual 187, 3) := by decide +kernel
theorem dX0_hasSameUnits_10 : decode cX0_hasSameUnits 10 = .ok (.if_icmp .eq 5, 3) := by decide +kernel
theorem dX0_hasSameUnits_13 : decode cX0_hasSameUnits 13 = .ok (.iconst 0, 1) := by decide +kernel
theorem dX0_hasSameUnits_14 : decode cX0_hasSameUnits 14 = .ok (.ireturn, 1) := by decide +kernel
theorem dX0_hasSameUnits_15 : decode cX0_hasSameUnits 15 = .ok (.aload_n 0, 1) := by decide +kernel
theorem dX0_hasSameUnits_16 : decode cX0_hasSameUnits 16 = .ok (.iload_n 1, 1) := by decide +kernel
theorem dX0_hasSameUnits_17 : decode cX0_hasSameUnits 17 = .ok (.invokevirtual 181, 3) := by decide +kernel
theorem dX0_hasSameUnits_20 : decode cX0_hasSameUnits 20 = .ok (.istore_n 3, 1) := by decide +kernel
theorem dX0_hasSameUnits_21 : decode cX0_hasSameUnits 21 = .ok (.iconst 4, 1) := by decide +kernel
theorem dX0_hasSameUnits_22 : decode cX0_hasSameUnits 22 = .ok (.istore 4, 2) := by decide +kernel
theorem dX0_hasSameUnits_24 : decode cX0_hasSameUnits 24 = .ok (.iload 4, 2) := by decide +kernel
theorem dX0_hasSameUnits_26 : decode cX0_hasSameUnits 26 = .ok (.iload_n 3, 1) := by decide +kernel
theorem dX0_hasSameUnits_27 : decode cX0_hasSameUnits 27 = .ok (.if_icmp .ge 32, 3) := by decide +kernel
theorem dX0_hasSameUnits_30 : decode cX0_hasSameUnits 30 = .ok (.aload_n 0, 1) := by decide +kernel
theorem dX0_hasSameUnits_31 : decode cX0_hasSameUnits 31 = .ok (.getfield 23, 3) := by decide +kernel
theorem dX0_hasSameUnits_34 : decode cX0_hasSameUnits 34 = .ok (.iload_n 1, 1) := by decide +kernel
theorem dX0_hasSameUnits_35 : decode cX0_hasSameUnits 35 = .ok (.iload 4, 2) := by decide +kernel
theorem dX0_hasSameUnits_37 : decode cX0_hasSameUnits 37 = .ok (.iadd, 1) := by decide +kernel
theorem dX0_hasSameUnits_38 : decode cX0_hasSameUnits 38 = .ok (.iaload, 1) := by decide +kernel
theorem dX0_hasSameUnits_39 : decode cX0_hasSameUnits 39 = .ok (.aload_n 0, 1) := by decide +kernel
theorem dX0_hasSameUnits_40 : decode cX0_hasSameUnits 40 = .ok (.getfield 23, 3) := by decide +kernel
theorem dX0_hasSameUnits_43 : decode cX0_hasSameUnits 43 = .ok (.iload_n 2, 1) := by decide +kernel
theorem dX0_hasSameUnits_44 : decode cX0_hasSameUnits 44 = .ok (.iload 4, 2) := by decide +kernel
theorem dX0_hasSameUnits_46 : decode cX0_hasSameUnits 46 = .ok (.iadd, 1) := by decide +kernel
theorem dX0_hasSameUnits_47 : decode cX0_hasSameUnits 47 = .ok (.iaload, 1) := by decide +kernel
theorem dX0_hasSameUnits_48 : decode cX0_hasSameUnits 48 = .ok (.if_icmp .eq 5, 3) := by decide +kernel
theorem dX0_hasSameUnits_51 : decode cX0_hasSameUnits 51 = .ok (.iconst 0, 1) := by decide +kernel
theorem dX0_hasSameUnits_52 : decode cX0_hasSameUnits 52 = .ok (.ireturn, 1) := by decide +kernel
theorem dX0_hasSameUnits_53 : decode cX0_hasSameUnits 53 = .ok (.iinc 4 1, 3) := by decide +kernel
theorem dX0_hasSameUnits_56 : decode cX0_hasSameUnits 56 = .ok (.goto (-32), 3) := by decide +kernel
theorem dX0_hasSameUnits_59 : decode cX0_hasSameUnits 59 = .ok (.iconst 1, 1) := by decide +kernel
theorem dX0_hasSameUnits_60 : decode cX0_hasSameUnits 60 = .ok (.ireturn, 1) := by decide +kernel
set_option maxRecDepth 20000 in
theorem ggX0_makeName_X0_lengthIn : GoodIn wsX0_makeName wsX0_lengthIn := goodIn_r _ [8, 1, 9, 10, 11, 7, 12, 13, 14, 15, 16, 17, 142, 143, 144, 145, 146, 147, 148, 149, 150, 151] (by decide +kernel) (by decide +kernel)
set_option maxRecDepth 20000 in
theorem gX0_makeName_X0_lengthIn : GoodIn wsX0_makeName (wsV RX0 115 RX0 yX0_lengthIn wsX0_lengthIn) := goodIn_app (goodIn_of _ (by decide +kernel)) ggX0_makeName_X0_lengthIn
set_option maxRecDepth 20000 in
theorem ggX0_makeName_X0_makeFlat : GoodIn wsX0_makeName wsX0_makeFlat := goodIn_ca (goodIn_r _ [21, 22, 23, 24, 7, 25, 26, 27, 13, 28, 29, 30, 31, 32, 33, 34, 35, 36, 37, 38, 39, 40, 41, 42, 43, 44, 45, 46, 47, 48, 1, 49, 50, 51, 52, 53, 54, 55, 56, 14, 15, 16, 17, 57, 58, 59, 60, 61, 62, 63, 64, 65, 66, 67, 68, 69, 70, 71, 72, 73, 74, 75, 76, 2, 3, 77, 78, 79, 80, 81, 82, 83, 84, 85, 86, 87, 88, 89, 90, 91, 92, 93, 94, 95, 96, 97, 98, 99, 100, 101, 102, 103, 104, 105, 106, 107, 108, 109, 110, 111, 112, 113, 114, 115, 116, 117, 118, 119, 120, 142, 143, 144, 145, 146, 147, 148, 149, 150, 151, 152, 153, 154, 155] (by decide +kernel) (by decide +kernel)) (goodIn_sub (fun _ h => List.mem_cons_of_mem _ (List.mem_append_right _ h)) (by decide +kernel))
set_option maxRecDepth 20000 in
theorem gX0_makeName_X0_makeFlat : GoodIn wsX0_makeName (wsV RX0 104 RX0 yX0_makeFlat wsX0_makeFlat) := goodIn_app (goodIn_of _ (by decide +kernel)) ggX0_makeName_X0_makeFlat
set_option maxRecDepth 20000 in
theorem ggX0_makeName_X0_flatOf : GoodIn wsX0_makeName wsX0_flatOf := goodIn_r _ [124, 13, 125, 126, 127, 7, 128, 142, 143, 144, 145, 146, 147, 148, 149, 150, 151] (by decide +kernel) (by decide +kernel)
set_option maxRecDepth 20000 in
theorem gX0_makeName_X0_flatOf : GoodIn wsX0_makeName (wsV RX0 134 RX0 yX0_flatOf wsX0_flatOf) := goodIn_app (goodIn_of _ (by decide +kernel)) ggX0_makeName_X0_flatOf
set_option maxRecDepth 20000 in
theorem ggX0_makeName_X0_copyUnits : GoodIn wsX0_makeName wsX0_copyUnits := goodIn_r _ [132, 133, 134, 135, 7, 136, 13, 137, 138, 139, 140, 141, 142, 143, 144, 145, 146, 147, 148, 149, 150, 151] (by decide +kernel) (by decide +kernel)
set_option maxRecDepth 20000 in
theorem gX0_makeName_X0_copyUnits : GoodIn wsX0_makeName (wsV RX0 137 RX0 yX0_copyUnits wsX0_copyUnits) := goodIn_app (goodIn_of _ (by decide +kernel)) ggX0_makeName_X0_copyUnits
set_option maxRecDepth 20000 in
theorem ggX0_makeName_J7_copyOf_59c91 : GoodIn wsX0_makeName wsJ7_copyOf_59c91 := goodIn_r _ [95, 96, 97, 98, 99, 100, 101, 102, 103, 90, 43, 91, 104, 82, 83, 84] (by decide +kernel) (by decide +kernel)
set_option maxRecDepth 20000 in
theorem gX0_makeName_J7_copyOf_59c91 : GoodIn wsX0_makeName (va_wsS RX0 203 yJ7_copyOf_59c91 wsJ7_copyOf_59c91) := goodIn_app (goodIn_of _ (by decide +kernel)) ggX0_makeName_J7_copyOf_59c91
theorem dX0_makeName_0 : decode cX0_makeName 0 = .ok (.aload_n 0, 1) := by decide +kernel
theorem dX0_makeName_1 : decode cX0_makeName 1 = .ok (.iload_n 1, 1) := by decide +kernel
theorem dX0_makeName_2 : decode cX0_makeName 2 = .ok (.invokevirtual 115, 3) := by decide +kernel
theorem dX0_makeName_5 : decode cX0_makeName 5 = .ok (.istore_n 2, 1) := by decide +kernel
theorem dX0_makeName_6 : decode cX0_makeName 6 = .ok (.aload_n 0, 1) := by decide +kernel
theorem dX0_makeName_7 : decode cX0_makeName 7 = .ok (.iconst 5, 1) := by decide +kernel
theorem dX0_makeName_8 : decode cX0_makeName 8 = .ok (.iload_n 2, 1) := by decide +kernel
theorem dX0_makeName_9 : decode cX0_makeName 9 = .ok (.invokevirtual 104, 3) := by decide +kernel
theorem dX0_makeName_12 : decode cX0_makeName 12 = .ok (.istore_n 3, 1) := by decide +kernel
theorem dX0_makeName_13 : decode cX0_makeName 13 = .ok (.aload_n 0, 1) := by decide +kernel
theorem dX0_makeName_14 : decode cX0_makeName 14 = .ok (.aload_n 0, 1) := by decide +kernel
theorem dX0_makeName_15 : decode cX0_makeName 15 = .ok (.aload_n 0, 1) := by decide +kernel
theorem dX0_makeName_16 : decode cX0_makeName 16 = .ok (.getfield 30, 3) := by decide +kernel
theorem dX0_makeName_19 : decode cX0_makeName 19 = .ok (.iload_n 1, 1) := by decide +kernel
theorem dX0_makeName_20 : decode cX0_makeName 20 = .ok (.iaload, 1) := by decide +kernel
theorem dX0_makeName_21 : decode cX0_makeName 21 = .ok (.invokevirtual 134, 3) := by decide +kernel
theorem dX0_makeName_24 : decode cX0_makeName 24 = .ok (.iconst 0, 1) := by decide +kernel
theorem dX0_makeName_25 : decode cX0_makeName 25 = .ok (.iload_n 2, 1) := by decide +kernel
theorem dX0_makeName_26 : decode cX0_makeName 26 = .ok (.iload_n 3, 1) := by decide +kernel
theorem dX0_makeName_27 : decode cX0_makeName 27 = .ok (.iconst 0, 1) := by decide +kernel
theorem dX0_makeName_28 : decode cX0_makeName 28 = .ok (.invokevirtual 137, 3) := by decide +kernel
theorem dX0_makeName_31 : decode cX0_makeName 31 = .ok (.aload_n 0, 1) := by decide +kernel
theorem dX0_makeName_32 : decode cX0_makeName 32 = .ok (.getfield 42, 3) := by decide +kernel
theorem dX0_makeName_35 : decode cX0_makeName 35 = .ok (.aload_n 0, 1) := by decide +kernel
theorem dX0_makeName_36 : decode cX0_makeName 36 = .ok (.getfield 39, 3) := by decide +kernel
theorem dX0_makeName_39 : decode cX0_makeName 39 = .ok (.arraylength, 1) := by decide +kernel
theorem dX0_makeName_40 : decode cX0_makeName 40 = .ok (.if_icmp .ne 20, 3) := by decide +kernel
theorem dX0_makeName_43 : decode cX0_makeName 43 = .ok (.aload_n 0, 1) := by decide +kernel
theorem dX0_makeName_44 : decode cX0_makeName 44 = .ok (.aload_n 0, 1) := by decide +kernel
theorem dX0_makeName_45 : decode cX0_makeName 45 = .ok (.getfield 39, 3) := by decide +kernel
theorem dX0_makeName_48 : decode cX0_makeName 48 = .ok (.iconst 2, 1) := by decide +kernel
theorem dX0_makeName_49 : decode cX0_makeName 49 = .ok (.aload_n 0, 1) := by decide +kernel
theorem dX0_makeName_50 : decode cX0_makeName 50 = .ok (.getfield 42, 3) := by decide +kernel
theorem dX0_makeName_53 : decode cX0_makeName 53 = .ok (.imul, 1) := by decide +kernel
theorem dX0_makeName_54 : decode cX0_makeName 54 = .ok (.invokestatic 203, 3) := by decide +kernel
theorem dX0_makeName_57 : decode cX0_makeName 57 = .ok (.putfield 39, 3) := by decide +kernel
theorem dX0_makeName_60 : decode cX0_makeName 60 = .ok (.aload_n 0, 1) := by decide +kernel
theorem dX0_makeName_61 : decode cX0_makeName 61 = .ok (.getfield 39, 3) := by decide +kernel
theorem dX0_makeName_64 : decode cX0_makeName 64 = .ok (.aload_n 0, 1) := by decide +kernel
theorem dX0_makeName_65 : decode cX0_makeName 65 = .ok (.getfield 42, 3) := by decide +kernel
theorem dX0_makeName_68 : decode cX0_makeName 68 = .ok (.iload_n 3, 1) := by decide +kernel
theorem dX0_makeName_69 : decode cX0_makeName 69 = .ok (.iastore, 1) := by decide +kernel
theorem dX0_makeName_70 : decode cX0_makeName 70 = .ok (.aload_n 0, 1) := by decide +kernel
theorem dX0_makeName_71 : decode cX0_makeName 71 = .ok (.dup, 1) := by decide +kernel
theorem dX0_makeName_72 : decode cX0_makeName 72 = .ok (.getfield 42, 3) := by decide +kernel
theorem dX0_makeName_75 : decode cX0_makeName 75 = .ok (.iconst 1, 1) := by decide +kernel
theorem dX0_makeName_76 : decode cX0_makeName 76 = .ok (.iadd, 1) := by decide +kernel
theorem dX0_makeName_77 : decode cX0_makeName 77 = .ok (.putfield 42, 3) := by decide +kernel
theorem dX0_makeName_80 : decode cX0_makeName 80 = .ok (.iload_n 3, 1) := by decide +kernel
theorem dX0_makeName_81 : decode cX0_makeName 81 = .ok (.ireturn, 1) := by decide +kernel
theorem dX0_isStressed_0 : decode cX0_isStressed 0 = .ok (.aload_n 0, 1) := by decide +kernel
theorem dX0_isStressed_1 : decode cX0_isStressed 1 = .ok (.getfield 51, 3) := by decide +kernel
theorem dX0_isStressed_4 : decode cX0_isStressed 4 = .ok (.ifCond .le 21, 3) := by decide +kernel
theorem dX0_isStressed_7 : decode cX0_isStressed 7 = .ok (.aload_n 0, 1) := by decide +kernel
theorem dX0_isStressed_8 : decode cX0_isStressed 8 = .ok (.getfield 54, 3) := by decide +kernel
theorem dX0_isStressed_11 : decode cX0_isStressed 11 = .ok (.iconst 1, 1) := by decide +kernel
theorem dX0_isStressed_12 : decode cX0_isStressed 12 = .ok (.iadd, 1) := by decide +kernel
theorem dX0_isStressed_13 : decode cX0_isStressed 13 = .ok (.aload_n 0, 1) := by decide +kernel
theorem dX0_isStressed_14 : decode cX0_isStressed 14 = .ok (.getfield 51, 3) := by decide +kernel
theorem dX0_isStressed_17 : decode cX0_isStressed 17 = .ok (.irem, 1) := by decide +kernel
theorem dX0_isStressed_18 : decode cX0_isStressed 18 = .ok (.ifCond .ne 7, 3) := by decide +kernel
theorem dX0_isStressed_21 : decode cX0_isStressed 21 = .ok (.iconst 1, 1) := by decide +kernel
theorem dX0_isStressed_22 : decode cX0_isStressed 22 = .ok (.goto 4, 3) := by decide +kernel
theorem dX0_isStressed_25 : decode cX0_isStressed 25 = .ok (.iconst 0, 1) := by decide +kernel
theorem dX0_isStressed_26 : decode cX0_isStressed 26 = .ok (.ireturn, 1) := by decide +kernel
set_option maxRecDepth 20000 in
theorem ggX0_make_X0_isStressed : GoodIn wsX0_make wsX0_isStressed := goodIn_r _ [11, 12, 6, 101, 102, 103, 104, 105, 106, 107, 108, 109, 110] (by decide +kernel) (by decide +kernel)
set_option maxRecDepth 20000 in
theorem gX0_make_X0_isStressed : GoodIn wsX0_make (wsV RX0 207 RX0 yX0_isStressed wsX0_isStressed) := goodIn_app (goodIn_of _ (by decide +kernel)) ggX0_make_X0_isStressed
set_option maxRecDepth 20000 in
theorem ggX0_make_X0_slideTogether : GoodIn wsX0_make wsX0_slideTogether := goodIn_r _ [16, 4, 17, 3, 18, 19, 20, 21, 22, 23, 24, 10, 25, 26, 27, 28, 29, 30, 31, 32, 33, 34, 35, 36, 37, 38, 39, 40, 41, 42, 43, 44, 45, 46, 47, 48, 49, 50, 51, 52, 53, 54, 55, 56, 57, 58, 59, 60, 61, 62, 63, 64, 65, 66, 67, 68, 101, 102, 103, 104, 105, 106, 107, 108, 109, 110] (by decide +kernel) (by decide +kernel)
set_option maxRecDepth 20000 in
theorem gX0_make_X0_slideTogether : GoodIn wsX0_make (wsV RX0 157 RX0 yX0_slideTogether wsX0_slideTogether) := goodIn_app (goodIn_of _ (by decide +kernel)) ggX0_make_X0_slideTogether
set_option maxRecDepth 20000 in
theorem ggX0_make_X0_widen : GoodIn wsX0_make wsX0_widen := goodIn_r _ [72, 3, 5, 73, 74, 20, 75, 76, 77, 78, 79, 80, 81, 82, 83, 84, 85, 86, 87, 88, 66, 67, 68, 101, 102, 103, 104, 105, 106, 107, 108, 109, 110] (by decide +kernel) (by decide +kernel)
set_option maxRecDepth 20000 in
theorem gX0_make_X0_widen : GoodIn wsX0_make (wsV RX0 213 RX0 yX0_widen wsX0_widen) := goodIn_app (goodIn_of _ (by decide +kernel)) ggX0_make_X0_widen
set_option maxRecDepth 20000 in
theorem ggX0_make_J7_fill_fda19 : GoodIn wsX0_make wsJ7_fill_fda19 := goodIn_r _ [91, 92, 93, 78, 94, 95, 96, 97, 111, 112, 113, 114] (by decide +kernel) (by decide +kernel)
set_option maxRecDepth 20000 in
theorem gX0_make_J7_fill_fda19 : GoodIn wsX0_make (va_wsS RX0 216 yJ7_fill_fda19 wsJ7_fill_fda19) := goodIn_app (goodIn_of _ (by decide +kernel)) ggX0_make_J7_fill_fda19
set_option maxRecDepth 20000 in
theorem ggX0_make_X0_shapeOf : GoodIn wsX0_make wsX0_shapeOf := goodIn_r _ [100] (by decide +kernel) (by decide +kernel)
set_option maxRecDepth 20000 in
theorem gX0_make_X0_shapeOf : GoodIn wsX0_make (va_wsS RX0 197 yX0_shapeOf wsX0_shapeOf) := goodIn_app (goodIn_of _ (by decide +kernel)) ggX0_make_X0_shapeOf
theorem dX0_make_0 : decode cX0_make 0 = .ok (.iconst 3, 1) := by decide +kernel
theorem dX0_make_1 : decode cX0_make 1 = .ok (.iload_n 2, 1) := by decide +kernel
theorem dX0_make_2 : decode cX0_make 2 = .ok (.iadd, 1) := by decide +kernel
theorem dX0_make_3 : decode cX0_make 3 = .ok (.iconst 2, 1) := by decide +kernel
theorem dX0_make_4 : decode cX0_make 4 = .ok (.iload_n 3, 1) := by decide +kernel
theorem dX0_make_5 : decode cX0_make 5 = .ok (.imul, 1) := by decide +kernel
theorem dX0_make_6 : decode cX0_make 6 = .ok (.iadd, 1) := by decide +kernel
theorem dX0_make_7 : decode cX0_make 7 = .ok (.iload 4, 2) := by decide +kernel
theorem dX0_make_9 : decode cX0_make 9 = .ok (.iadd, 1) := by decide +kernel
theorem dX0_make_10 : decode cX0_make 10 = .ok (.istore 5, 2) := by decide +kernel
theorem dX0_make_12 : decode cX0_make 12 = .ok (.iload 5, 2) := by decide +kernel
theorem dX0_make_14 : decode cX0_make 14 = .ok (.aload_n 0, 1) := by decide +kernel
theorem dX0_make_15 : decode cX0_make 15 = .ok (.getfield 23, 3) := by decide +kernel
theorem dX0_make_18 : decode cX0_make 18 = .ok (.arraylength, 1) := by decide +kernel
theorem dX0_make_19 : decode cX0_make 19 = .ok (.aload_n 0, 1) := by decide +kernel
theorem dX0_make_20 : decode cX0_make 20 = .ok (.getfield 27, 3) := by decide +kernel
theorem dX0_make_23 : decode cX0_make 23 = .ok (.isub, 1) := by decide +kernel
theorem dX0_make_24 : decode cX0_make 24 = .ok (.if_icmp .le 7, 3) := by decide +kernel
theorem dX0_make_27 : decode cX0_make 27 = .ok (.iconst 1, 1) := by decide +kernel
theorem dX0_make_28 : decode cX0_make 28 = .ok (.goto 4, 3) := by decide +kernel
theorem dX0_make_31 : decode cX0_make 31 = .ok (.iconst 0, 1) := by decide +kernel
theorem dX0_make_32 : decode cX0_make 32 = .ok (.istore 6, 2) := by decide +kernel
theorem dX0_make_34 : decode cX0_make 34 = .ok (.iload 6, 2) := by decide +kernel
theorem dX0_make_36 : decode cX0_make 36 = .ok (.ifCond .ne 10, 3) := by decide +kernel
theorem dX0_make_39 : decode cX0_make 39 = .ok (.aload_n 0, 1) := by decide +kernel
theorem dX0_make_40 : decode cX0_make 40 = .ok (.invokevirtual 207, 3) := by decide +kernel
theorem dX0_make_43 : decode cX0_make 43 = .ok (.ifCond .eq 7, 3) := by decide +kernel
theorem dX0_make_46 : decode cX0_make 46 = .ok (.aload_n 0, 1) := by decide +kernel
theorem dX0_make_47 : decode cX0_make 47 = .ok (.invokevirtual 157, 3) := by decide +kernel
theorem dX0_make_50 : decode cX0_make 50 = .ok (.iload 5, 2) := by decide +kernel
theorem dX0_make_52 : decode cX0_make 52 = .ok (.aload_n 0, 1) := by decide +kernel
theorem dX0_make_53 : decode cX0_make 53 = .ok (.getfield 19, 3) := by decide +kernel
theorem dX0_make_56 : decode cX0_make 56 = .ok (.aload_n 0, 1) := by decide +kernel
theorem dX0_make_57 : decode cX0_make 57 = .ok (.getfield 27, 3) := by decide +kernel
theorem dX0_make_60 : decode cX0_make 60 = .ok (.isub, 1) := by decide +kernel
theorem dX0_make_61 : decode cX0_make 61 = .ok (.if_icmp .le 13, 3) := by decide +kernel
theorem dX0_make_64 : decode cX0_make 64 = .ok (.new 118, 3) := by decide +kernel
theorem dX0_make_67 : decode cX0_make 67 = .ok (.dup, 1) := by decide +kernel
theorem dX0_make_68 : decode cX0_make 68 = .ok (.ldc 211, 2) := by decide +kernel
theorem dX0_make_70 : decode cX0_make 70 = .ok (.invokespecial 122, 3) := by decide +kernel
theorem dX0_make_73 : decode cX0_make 73 = .ok (.athrow, 1) := by decide +kernel
theorem dX0_make_74 : decode cX0_make 74 = .ok (.iload 6, 2) := by decide +kernel
theorem dX0_make_76 : decode cX0_make 76 = .ok (.ifCond .eq 14, 3) := by decide +kernel
theorem dX0_make_79 : decode cX0_make 79 = .ok (.aload_n 0, 1) := by decide +kernel
theorem dX0_make_80 : decode cX0_make 80 = .ok (.aload_n 0, 1) := by decide +kernel
theorem dX0_make_81 : decode cX0_make 81 = .ok (.getfield 27, 3) := by decide +kernel
theorem dX0_make_84 : decode cX0_make 84 = .ok (.iload 5, 2) := by decide +kernel
theorem dX0_make_86 : decode cX0_make 86 = .ok (.iadd, 1) := by decide +kernel
theorem dX0_make_87 : decode cX0_make 87 = .ok (.invokevirtual 213, 3) := by decide +kernel
theorem dX0_make_90 : decode cX0_make 90 = .ok (.aload_n 0, 1) := by decide +kernel
theorem dX0_make_91 : decode cX0_make 91 = .ok (.getfield 27, 3) := by decide +kernel
theorem dX0_make_94 : decode cX0_make 94 = .ok (.istore 7, 2) := by decide +kernel
theorem dX0_make_96 : decode cX0_make 96 = .ok (.aload_n 0, 1) := by decide +kernel
theorem dX0_make_97 : decode cX0_make 97 = .ok (.dup, 1) := by decide +kernel
theorem dX0_make_98 : decode cX0_make 98 = .ok (.getfield 27, 3) := by decide +kernel
theorem dX0_make_101 : decode cX0_make 101 = .ok (.iload 5, 2) := by decide +kernel
theorem dX0_make_103 : decode cX0_make 103 = .ok (.iadd, 1) := by decide +kernel
theorem dX0_make_104 : decode cX0_make 104 = .ok (.putfield 27, 3) := by decide +kernel
theorem dX0_make_107 : decode cX0_make 107 = .ok (.aload_n 0, 1) := by decide +kernel
theorem dX0_make_108 : decode cX0_make 108 = .ok (.dup, 1) := by decide +kernel
theorem dX0_make_109 : decode cX0_make 109 = .ok (.getfield 54, 3) := by decide +kernel
theorem dX0_make_112 : decode cX0_make 112 = .ok (.iconst 1, 1) := by decide +kernel
theorem dX0_make_113 : decode cX0_make 113 = .ok (.iadd, 1) := by decide +kernel
theorem dX0_make_114 : decode cX0_make 114 = .ok (.putfield 54, 3) := by decide +kernel
theorem dX0_make_117 : decode cX0_make 117 = .ok (.aload_n 0, 1) := by decide +kernel
theorem dX0_make_118 : decode cX0_make 118 = .ok (.getfield 23, 3) := by decide +kernel
theorem dX0_make_121 : decode cX0_make 121 = .ok (.iload 7, 2) := by decide +kernel
theorem dX0_make_123 : decode cX0_make 123 = .ok (.aload_n 0, 1) := by decide +kernel
theorem dX0_make_124 : decode cX0_make 124 = .ok (.getfield 27, 3) := by decide +kernel
theorem dX0_make_127 : decode cX0_make 127 = .ok (.iconst 0, 1) := by decide +kernel
theorem dX0_make_128 : decode cX0_make 128 = .ok (.invokestatic 216, 3) := by decide +kernel
theorem dX0_make_131 : decode cX0_make 131 = .ok (.aload_n 0, 1) := by decide +kernel
theorem dX0_make_132 : decode cX0_make 132 = .ok (.getfield 23, 3) := by decide +kernel
theorem dX0_make_135 : decode cX0_make 135 = .ok (.iload 7, 2) := by decide +kernel
theorem dX0_make_137 : decode cX0_make 137 = .ok (.iconst 3, 1) := by decide +kernel
theorem dX0_make_138 : decode cX0_make 138 = .ok (.iadd, 1) := by decide +kernel
theorem dX0_make_139 : decode cX0_make 139 = .ok (.iload 7, 2) := by decide +kernel
theorem dX0_make_141 : decode cX0_make 141 = .ok (.iconst 3, 1) := by decide +kernel
theorem dX0_make_142 : decode cX0_make 142 = .ok (.iadd, 1) := by decide +kernel
theorem dX0_make_143 : decode cX0_make 143 = .ok (.iload_n 2, 1) := by decide +kernel
theorem dX0_make_144 : decode cX0_make 144 = .ok (.iadd, 1) := by decide +kernel
theorem dX0_make_145 : decode cX0_make 145 = .ok (.iconst (-1), 1) := by decide +kernel
theorem dX0_make_146 : decode cX0_make 146 = .ok (.invokestatic 216, 3) := by decide +kernel
theorem dX0_make_149 : decode cX0_make 149 = .ok (.aload_n 0, 1) := by decide +kernel
theorem dX0_make_150 : decode cX0_make 150 = .ok (.getfield 23, 3) := by decide +kernel
theorem dX0_make_153 : decode cX0_make 153 = .ok (.iload 7, 2) := by decide +kernel
theorem dX0_make_155 : decode cX0_make 155 = .ok (.iconst 0, 1) := by decide +kernel
theorem dX0_make_156 : decode cX0_make 156 = .ok (.iadd, 1) := by decide +kernel
theorem dX0_make_157 : decode cX0_make 157 = .ok (.iload_n 1, 1) := by decide +kernel
theorem dX0_make_158 : decode cX0_make 158 = .ok (.iload_n 2, 1) := by decide +kernel
theorem dX0_make_159 : decode cX0_make 159 = .ok (.iload_n 3, 1) := by decide +kernel
theorem dX0_make_160 : decode cX0_make 160 = .ok (.iload 5, 2) := by decide +kernel
theorem dX0_make_162 : decode cX0_make 162 = .ok (.invokestatic 197, 3) := by decide +kernel
theorem dX0_make_165 : decode cX0_make 165 = .ok (.iastore, 1) := by decide +kernel
theorem dX0_make_166 : decode cX0_make 166 = .ok (.aload_n 0, 1) := by decide +kernel
theorem dX0_make_167 : decode cX0_make 167 = .ok (.getfield 23, 3) := by decide +kernel
theorem dX0_make_170 : decode cX0_make 170 = .ok (.iload 7, 2) := by decide +kernel
theorem dX0_make_172 : decode cX0_make 172 = .ok (.iconst 1, 1) := by decide +kernel
theorem dX0_make_173 : decode cX0_make 173 = .ok (.iadd, 1) := by decide +kernel
theorem dX0_make_174 : decode cX0_make 174 = .ok (.iconst (-1), 1) := by decide +kernel
theorem dX0_make_175 : decode cX0_make 175 = .ok (.iastore, 1) := by decide +kernel
theorem dX0_make_176 : decode cX0_make 176 = .ok (.iload 7, 2) := by decide +kernel
theorem dX0_make_178 : decode cX0_make 178 = .ok (.ireturn, 1) := by decide +kernel
