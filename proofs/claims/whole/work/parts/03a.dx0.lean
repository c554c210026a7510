set_option maxRecDepth 20000 in
theorem ggX0_init_J7_fill_53178 : GoodIn wsX0_init wsJ7_fill_53178 := goodIn_r _ [26] (by decide +kernel) (by decide +kernel)
set_option maxRecDepth 20000 in
theorem gX0_init_J7_fill_53178 : GoodIn wsX0_init (va_wsS RX0 33 yJ7_fill_53178 wsJ7_fill_53178) := goodIn_app (goodIn_of _ (by decide +kernel)) ggX0_init_J7_fill_53178
theorem dX0_init_0 : decode cX0_init 0 = .ok (.aload_n 0, 1) := by decide +kernel
theorem dX0_init_1 : decode cX0_init 1 = .ok (.invokespecial 3, 3) := by decide +kernel
theorem dX0_init_4 : decode cX0_init 4 = .ok (.aload_n 0, 1) := by decide +kernel
theorem dX0_init_5 : decode cX0_init 5 = .ok (.bipush 16, 2) := by decide +kernel
theorem dX0_init_7 : decode cX0_init 7 = .ok (.iload_n 1, 1) := by decide +kernel
theorem dX0_init_8 : decode cX0_init 8 = .ok (.ldc 9, 2) := by decide +kernel
theorem dX0_init_10 : decode cX0_init 10 = .ok (.invokestatic 10, 3) := by decide +kernel
theorem dX0_init_13 : decode cX0_init 13 = .ok (.invokestatic 16, 3) := by decide +kernel
theorem dX0_init_16 : decode cX0_init 16 = .ok (.putfield 19, 3) := by decide +kernel
theorem dX0_init_19 : decode cX0_init 19 = .ok (.aload_n 0, 1) := by decide +kernel
theorem dX0_init_20 : decode cX0_init 20 = .ok (.aload_n 0, 1) := by decide +kernel
theorem dX0_init_21 : decode cX0_init 21 = .ok (.getfield 19, 3) := by decide +kernel
theorem dX0_init_24 : decode cX0_init 24 = .ok (.sipush 256, 3) := by decide +kernel
theorem dX0_init_27 : decode cX0_init 27 = .ok (.invokestatic 10, 3) := by decide +kernel
theorem dX0_init_30 : decode cX0_init 30 = .ok (.newarray .int, 2) := by decide +kernel
theorem dX0_init_32 : decode cX0_init 32 = .ok (.putfield 23, 3) := by decide +kernel
theorem dX0_init_35 : decode cX0_init 35 = .ok (.aload_n 0, 1) := by decide +kernel
theorem dX0_init_36 : decode cX0_init 36 = .ok (.iconst 0, 1) := by decide +kernel
theorem dX0_init_37 : decode cX0_init 37 = .ok (.putfield 27, 3) := by decide +kernel
theorem dX0_init_40 : decode cX0_init 40 = .ok (.aload_n 0, 1) := by decide +kernel
theorem dX0_init_41 : decode cX0_init 41 = .ok (.bipush 24, 2) := by decide +kernel
theorem dX0_init_43 : decode cX0_init 43 = .ok (.newarray .int, 2) := by decide +kernel
theorem dX0_init_45 : decode cX0_init 45 = .ok (.putfield 30, 3) := by decide +kernel
theorem dX0_init_48 : decode cX0_init 48 = .ok (.aload_n 0, 1) := by decide +kernel
theorem dX0_init_49 : decode cX0_init 49 = .ok (.getfield 30, 3) := by decide +kernel
theorem dX0_init_52 : decode cX0_init 52 = .ok (.iconst (-1), 1) := by decide +kernel
theorem dX0_init_53 : decode cX0_init 53 = .ok (.invokestatic 33, 3) := by decide +kernel
theorem dX0_init_56 : decode cX0_init 56 = .ok (.aload_n 0, 1) := by decide +kernel
theorem dX0_init_57 : decode cX0_init 57 = .ok (.bipush 16, 2) := by decide +kernel
theorem dX0_init_59 : decode cX0_init 59 = .ok (.newarray .int, 2) := by decide +kernel
theorem dX0_init_61 : decode cX0_init 61 = .ok (.putfield 39, 3) := by decide +kernel
theorem dX0_init_64 : decode cX0_init 64 = .ok (.aload_n 0, 1) := by decide +kernel
theorem dX0_init_65 : decode cX0_init 65 = .ok (.iconst 0, 1) := by decide +kernel
theorem dX0_init_66 : decode cX0_init 66 = .ok (.putfield 42, 3) := by decide +kernel
theorem dX0_init_69 : decode cX0_init 69 = .ok (.aload_n 0, 1) := by decide +kernel
theorem dX0_init_70 : decode cX0_init 70 = .ok (.sipush 4000, 3) := by decide +kernel
theorem dX0_init_73 : decode cX0_init 73 = .ok (.newarray .int, 2) := by decide +kernel
theorem dX0_init_75 : decode cX0_init 75 = .ok (.putfield 45, 3) := by decide +kernel
theorem dX0_init_78 : decode cX0_init 78 = .ok (.aload_n 0, 1) := by decide +kernel
theorem dX0_init_79 : decode cX0_init 79 = .ok (.iconst (-1), 1) := by decide +kernel
theorem dX0_init_80 : decode cX0_init 80 = .ok (.putfield 48, 3) := by decide +kernel
theorem dX0_init_83 : decode cX0_init 83 = .ok (.aload_n 0, 1) := by decide +kernel
theorem dX0_init_84 : decode cX0_init 84 = .ok (.iconst 0, 1) := by decide +kernel
theorem dX0_init_85 : decode cX0_init 85 = .ok (.putfield 51, 3) := by decide +kernel
theorem dX0_init_88 : decode cX0_init 88 = .ok (.aload_n 0, 1) := by decide +kernel
theorem dX0_init_89 : decode cX0_init 89 = .ok (.iconst 0, 1) := by decide +kernel
theorem dX0_init_90 : decode cX0_init 90 = .ok (.putfield 54, 3) := by decide +kernel
theorem dX0_init_93 : decode cX0_init 93 = .ok (.return_, 1) := by decide +kernel
set_option maxRecDepth 20000 in
theorem ggX0_take_X0_needRoot : GoodIn wsX0_take wsX0_needRoot := goodIn_ca (goodIn_r _ [7, 1, 2] (by decide +kernel) (by decide +kernel)) (goodIn_sub (fun _ h => List.mem_cons_of_mem _ (List.mem_append_left _ (List.mem_append_right _ h))) (by decide +kernel))
set_option maxRecDepth 20000 in
theorem gX0_take_X0_needRoot : GoodIn wsX0_take (va_wsS RX0 57 yX0_needRoot wsX0_needRoot) := goodIn_app (goodIn_of _ (by decide +kernel)) ggX0_take_X0_needRoot
set_option maxRecDepth 20000 in
theorem ggX0_take_X0_isUpTo : GoodIn wsX0_take wsX0_isUpTo := goodIn_r _ [10] (by decide +kernel) (by decide +kernel)
set_option maxRecDepth 20000 in
theorem gX0_take_X0_isUpTo : GoodIn wsX0_take (va_wsS RX0 61 yX0_isUpTo wsX0_isUpTo) := goodIn_app (goodIn_of _ (by decide +kernel)) ggX0_take_X0_isUpTo
set_option maxRecDepth 20000 in
theorem ggX0_take_X0_make : GoodIn wsX0_take wsX0_make := goodIn_ca (goodIn_r _ [14, 15, 16, 17, 18, 19, 20, 21, 22, 23, 6, 24, 25, 26, 27, 28, 29, 30, 31, 32, 33, 34, 35, 36, 37, 38, 3, 39, 40, 41, 42, 43, 44, 45, 46, 47, 48, 49, 50, 51, 52, 53, 54, 55, 56, 57, 58, 59, 60, 61, 62, 63, 64, 65, 66, 67, 68, 69, 70, 71, 72, 73, 74, 75, 76, 77, 78, 79, 80, 81, 82, 83, 84, 85, 86, 87, 88, 89, 90, 91, 92, 93, 94, 95, 96, 97, 98, 99, 100, 101, 102, 103, 104, 105, 106, 107, 108, 109, 110, 111, 112, 113, 114, 115, 116, 117, 118, 119, 120, 121, 122, 123, 124, 125, 126] (by decide +kernel) (by decide +kernel)) (goodIn_sub (fun _ h => List.mem_cons_of_mem _ (List.mem_append_right _ h)) (by decide +kernel))
set_option maxRecDepth 20000 in
theorem gX0_take_X0_make : GoodIn wsX0_take (wsV RX0 72 RX0 yX0_make wsX0_make) := goodIn_app (goodIn_of _ (by decide +kernel)) ggX0_take_X0_make
theorem dX0_take_0 : decode cX0_take 0 = .ok (.iload_n 1, 1) := by decide +kernel
theorem dX0_take_1 : decode cX0_take 1 = .ok (.invokestatic 57, 3) := by decide +kernel
theorem dX0_take_4 : decode cX0_take 4 = .ok (.iload_n 2, 1) := by decide +kernel
theorem dX0_take_5 : decode cX0_take 5 = .ok (.bipush 8, 2) := by decide +kernel
theorem dX0_take_7 : decode cX0_take 7 = .ok (.invokestatic 61, 3) := by decide +kernel
theorem dX0_take_10 : decode cX0_take 10 = .ok (.ifCond .eq 22, 3) := by decide +kernel
theorem dX0_take_13 : decode cX0_take 13 = .ok (.iload_n 3, 1) := by decide +kernel
theorem dX0_take_14 : decode cX0_take 14 = .ok (.bipush 8, 2) := by decide +kernel
theorem dX0_take_16 : decode cX0_take 16 = .ok (.invokestatic 61, 3) := by decide +kernel
theorem dX0_take_19 : decode cX0_take 19 = .ok (.ifCond .eq 13, 3) := by decide +kernel
theorem dX0_take_22 : decode cX0_take 22 = .ok (.iload 4, 2) := by decide +kernel
theorem dX0_take_24 : decode cX0_take 24 = .ok (.bipush 16, 2) := by decide +kernel
theorem dX0_take_26 : decode cX0_take 26 = .ok (.invokestatic 61, 3) := by decide +kernel
theorem dX0_take_29 : decode cX0_take 29 = .ok (.ifCond .ne 13, 3) := by decide +kernel
theorem dX0_take_32 : decode cX0_take 32 = .ok (.new 65, 3) := by decide +kernel
theorem dX0_take_35 : decode cX0_take 35 = .ok (.dup, 1) := by decide +kernel
theorem dX0_take_36 : decode cX0_take 36 = .ok (.ldc 67, 2) := by decide +kernel
theorem dX0_take_38 : decode cX0_take 38 = .ok (.invokespecial 69, 3) := by decide +kernel
theorem dX0_take_41 : decode cX0_take 41 = .ok (.athrow, 1) := by decide +kernel
theorem dX0_take_42 : decode cX0_take 42 = .ok (.aload_n 0, 1) := by decide +kernel
theorem dX0_take_43 : decode cX0_take 43 = .ok (.getfield 30, 3) := by decide +kernel
theorem dX0_take_46 : decode cX0_take 46 = .ok (.iload_n 1, 1) := by decide +kernel
theorem dX0_take_47 : decode cX0_take 47 = .ok (.aload_n 0, 1) := by decide +kernel
theorem dX0_take_48 : decode cX0_take 48 = .ok (.iconst 1, 1) := by decide +kernel
theorem dX0_take_49 : decode cX0_take 49 = .ok (.iload_n 2, 1) := by decide +kernel
theorem dX0_take_50 : decode cX0_take 50 = .ok (.iload_n 3, 1) := by decide +kernel
theorem dX0_take_51 : decode cX0_take 51 = .ok (.iload 4, 2) := by decide +kernel
theorem dX0_take_53 : decode cX0_take 53 = .ok (.invokevirtual 72, 3) := by decide +kernel
theorem dX0_take_56 : decode cX0_take 56 = .ok (.iastore, 1) := by decide +kernel
theorem dX0_take_57 : decode cX0_take 57 = .ok (.return_, 1) := by decide +kernel
set_option maxRecDepth 20000 in
theorem ggX0_copy_X0_needRoot : GoodIn wsX0_copy wsX0_needRoot := goodIn_ca (goodIn_r _ [5, 6, 7] (by decide +kernel) (by decide +kernel)) (goodIn_sub (fun _ h => List.mem_cons_of_mem _ (List.mem_append_right _ h)) (by decide +kernel))
set_option maxRecDepth 20000 in
theorem gX0_copy_X0_needRoot : GoodIn wsX0_copy (va_wsS RX0 57 yX0_needRoot wsX0_needRoot) := goodIn_app (goodIn_of _ (by decide +kernel)) ggX0_copy_X0_needRoot
theorem dX0_copy_0 : decode cX0_copy 0 = .ok (.iload_n 1, 1) := by decide +kernel
theorem dX0_copy_1 : decode cX0_copy 1 = .ok (.invokestatic 57, 3) := by decide +kernel
theorem dX0_copy_4 : decode cX0_copy 4 = .ok (.iload_n 2, 1) := by decide +kernel
theorem dX0_copy_5 : decode cX0_copy 5 = .ok (.invokestatic 57, 3) := by decide +kernel
theorem dX0_copy_8 : decode cX0_copy 8 = .ok (.aload_n 0, 1) := by decide +kernel
theorem dX0_copy_9 : decode cX0_copy 9 = .ok (.getfield 30, 3) := by decide +kernel
theorem dX0_copy_12 : decode cX0_copy 12 = .ok (.iload_n 1, 1) := by decide +kernel
theorem dX0_copy_13 : decode cX0_copy 13 = .ok (.aload_n 0, 1) := by decide +kernel
theorem dX0_copy_14 : decode cX0_copy 14 = .ok (.getfield 30, 3) := by decide +kernel
theorem dX0_copy_17 : decode cX0_copy 17 = .ok (.iload_n 2, 1) := by decide +kernel
theorem dX0_copy_18 : decode cX0_copy 18 = .ok (.iaload, 1) := by decide +kernel
theorem dX0_copy_19 : decode cX0_copy 19 = .ok (.iastore, 1) := by decide +kernel
theorem dX0_copy_20 : decode cX0_copy 20 = .ok (.return_, 1) := by decide +kernel
set_option maxRecDepth 20000 in
theorem ggX0_drop_X0_needRoot : GoodIn wsX0_drop wsX0_needRoot := goodIn_ca (goodIn_r _ [5, 6, 7] (by decide +kernel) (by decide +kernel)) (goodIn_sub (fun _ h => List.mem_cons_of_mem _ (List.mem_append_right _ h)) (by decide +kernel))
set_option maxRecDepth 20000 in
theorem gX0_drop_X0_needRoot : GoodIn wsX0_drop (va_wsS RX0 57 yX0_needRoot wsX0_needRoot) := goodIn_app (goodIn_of _ (by decide +kernel)) ggX0_drop_X0_needRoot
theorem dX0_drop_0 : decode cX0_drop 0 = .ok (.iload_n 1, 1) := by decide +kernel
theorem dX0_drop_1 : decode cX0_drop 1 = .ok (.invokestatic 57, 3) := by decide +kernel
theorem dX0_drop_4 : decode cX0_drop 4 = .ok (.aload_n 0, 1) := by decide +kernel
theorem dX0_drop_5 : decode cX0_drop 5 = .ok (.getfield 30, 3) := by decide +kernel
theorem dX0_drop_8 : decode cX0_drop 8 = .ok (.iload_n 1, 1) := by decide +kernel
theorem dX0_drop_9 : decode cX0_drop 9 = .ok (.iconst (-1), 1) := by decide +kernel
theorem dX0_drop_10 : decode cX0_drop 10 = .ok (.iastore, 1) := by decide +kernel
theorem dX0_drop_11 : decode cX0_drop 11 = .ok (.return_, 1) := by decide +kernel
set_option maxRecDepth 20000 in
theorem ggX0_kind_X0_needRoot : GoodIn wsX0_kind wsX0_needRoot := goodIn_ca (goodIn_r _ [5, 6, 7] (by decide +kernel) (by decide +kernel)) (goodIn_sub (fun _ h => List.mem_cons_of_mem _ (List.mem_append_right _ h)) (by decide +kernel))
set_option maxRecDepth 20000 in
theorem gX0_kind_X0_needRoot : GoodIn wsX0_kind (va_wsS RX0 57 yX0_needRoot wsX0_needRoot) := goodIn_app (goodIn_of _ (by decide +kernel)) ggX0_kind_X0_needRoot
set_option maxRecDepth 20000 in
theorem ggX0_kind_X0_kindAt : GoodIn wsX0_kind wsX0_kindAt := goodIn_r _ [11, 12, 13, 14, 15, 16, 17, 18, 19, 20, 21, 22] (by decide +kernel) (by decide +kernel)
set_option maxRecDepth 20000 in
theorem gX0_kind_X0_kindAt : GoodIn wsX0_kind (wsV RX0 76 RX0 yX0_kindAt wsX0_kindAt) := goodIn_app (goodIn_of _ (by decide +kernel)) ggX0_kind_X0_kindAt
theorem dX0_kind_0 : decode cX0_kind 0 = .ok (.iload_n 1, 1) := by decide +kernel
theorem dX0_kind_1 : decode cX0_kind 1 = .ok (.invokestatic 57, 3) := by decide +kernel
theorem dX0_kind_4 : decode cX0_kind 4 = .ok (.aload_n 0, 1) := by decide +kernel
theorem dX0_kind_5 : decode cX0_kind 5 = .ok (.aload_n 0, 1) := by decide +kernel
theorem dX0_kind_6 : decode cX0_kind 6 = .ok (.getfield 30, 3) := by decide +kernel
theorem dX0_kind_9 : decode cX0_kind 9 = .ok (.iload_n 1, 1) := by decide +kernel
theorem dX0_kind_10 : decode cX0_kind 10 = .ok (.iaload, 1) := by decide +kernel
theorem dX0_kind_11 : decode cX0_kind 11 = .ok (.invokevirtual 76, 3) := by decide +kernel
theorem dX0_kind_14 : decode cX0_kind 14 = .ok (.ireturn, 1) := by decide +kernel
set_option maxRecDepth 20000 in
theorem ggX0_same_X0_needRoot : GoodIn wsX0_same wsX0_needRoot := goodIn_ca (goodIn_r _ [5, 6, 7] (by decide +kernel) (by decide +kernel)) (goodIn_sub (fun _ h => List.mem_cons_of_mem _ (List.mem_append_right _ h)) (by decide +kernel))
set_option maxRecDepth 20000 in
theorem gX0_same_X0_needRoot : GoodIn wsX0_same (va_wsS RX0 57 yX0_needRoot wsX0_needRoot) := goodIn_app (goodIn_of _ (by decide +kernel)) ggX0_same_X0_needRoot
theorem dX0_same_0 : decode cX0_same 0 = .ok (.iload_n 1, 1) := by decide +kernel
theorem dX0_same_1 : decode cX0_same 1 = .ok (.invokestatic 57, 3) := by decide +kernel
theorem dX0_same_4 : decode cX0_same 4 = .ok (.iload_n 2, 1) := by decide +kernel
theorem dX0_same_5 : decode cX0_same 5 = .ok (.invokestatic 57, 3) := by decide +kernel
theorem dX0_same_8 : decode cX0_same 8 = .ok (.aload_n 0, 1) := by decide +kernel
theorem dX0_same_9 : decode cX0_same 9 = .ok (.getfield 30, 3) := by decide +kernel
theorem dX0_same_12 : decode cX0_same 12 = .ok (.iload_n 1, 1) := by decide +kernel
theorem dX0_same_13 : decode cX0_same 13 = .ok (.iaload, 1) := by decide +kernel
theorem dX0_same_14 : decode cX0_same 14 = .ok (.aload_n 0, 1) := by decide +kernel
theorem dX0_same_15 : decode cX0_same 15 = .ok (.getfield 30, 3) := by decide +kernel
theorem dX0_same_18 : decode cX0_same 18 = .ok (.iload_n 2, 1) := by decide +kernel
theorem dX0_same_19 : decode cX0_same 19 = .ok (.iaload, 1) := by decide +kernel
theorem dX0_same_20 : decode cX0_same 20 = .ok (.if_icmp .ne 7, 3) := by decide +kernel
theorem dX0_same_23 : decode cX0_same 23 = .ok (.iconst 1, 1) := by decide +kernel
theorem dX0_same_24 : decode cX0_same 24 = .ok (.goto 4, 3) := by decide +kernel
theorem dX0_same_27 : decode cX0_same 27 = .ok (.iconst 0, 1) := by decide +kernel
theorem dX0_same_28 : decode cX0_same 28 = .ok (.ireturn, 1) := by decide +kernel
set_option maxRecDepth 20000 in
theorem ggX0_tie_X0_linkSlot : GoodIn wsX0_tie wsX0_linkSlot := goodIn_ca (goodIn_r _ [7, 8, 9, 10, 11, 12, 6, 13, 2, 14, 15, 16, 17, 18, 19, 20, 1, 21, 22, 23, 24, 25, 26, 27, 28, 29, 30, 31, 32, 33, 34] (by decide +kernel) (by decide +kernel)) (goodIn_sub (fun _ h => List.mem_cons_of_mem _ (List.mem_append_right _ h)) (by decide +kernel))
set_option maxRecDepth 20000 in
theorem gX0_tie_X0_linkSlot : GoodIn wsX0_tie (wsV RX0 80 RX0 yX0_linkSlot wsX0_linkSlot) := goodIn_app (goodIn_of _ (by decide +kernel)) ggX0_tie_X0_linkSlot
set_option maxRecDepth 20000 in
theorem ggX0_tie_X0_needRoot : GoodIn wsX0_tie wsX0_needRoot := goodIn_ca (goodIn_r _ [16, 8, 9] (by decide +kernel) (by decide +kernel)) (goodIn_sub (fun _ h => List.mem_cons_of_mem _ (List.mem_append_right _ h)) (by decide +kernel))
set_option maxRecDepth 20000 in
theorem gX0_tie_X0_needRoot : GoodIn wsX0_tie (va_wsS RX0 57 yX0_needRoot wsX0_needRoot) := goodIn_app (goodIn_of _ (by decide +kernel)) ggX0_tie_X0_needRoot
theorem dX0_tie_0 : decode cX0_tie 0 = .ok (.aload_n 0, 1) := by decide +kernel
theorem dX0_tie_1 : decode cX0_tie 1 = .ok (.iload_n 1, 1) := by decide +kernel
theorem dX0_tie_2 : decode cX0_tie 2 = .ok (.iload_n 2, 1) := by decide +kernel
theorem dX0_tie_3 : decode cX0_tie 3 = .ok (.invokevirtual 80, 3) := by decide +kernel
theorem dX0_tie_6 : decode cX0_tie 6 = .ok (.istore 4, 2) := by decide +kernel
theorem dX0_tie_8 : decode cX0_tie 8 = .ok (.iload_n 3, 1) := by decide +kernel
theorem dX0_tie_9 : decode cX0_tie 9 = .ok (.invokestatic 57, 3) := by decide +kernel
theorem dX0_tie_12 : decode cX0_tie 12 = .ok (.aload_n 0, 1) := by decide +kernel
theorem dX0_tie_13 : decode cX0_tie 13 = .ok (.getfield 23, 3) := by decide +kernel
theorem dX0_tie_16 : decode cX0_tie 16 = .ok (.iload 4, 2) := by decide +kernel
theorem dX0_tie_18 : decode cX0_tie 18 = .ok (.aload_n 0, 1) := by decide +kernel
theorem dX0_tie_19 : decode cX0_tie 19 = .ok (.getfield 30, 3) := by decide +kernel
theorem dX0_tie_22 : decode cX0_tie 22 = .ok (.iload_n 3, 1) := by decide +kernel
theorem dX0_tie_23 : decode cX0_tie 23 = .ok (.iaload, 1) := by decide +kernel
theorem dX0_tie_24 : decode cX0_tie 24 = .ok (.iastore, 1) := by decide +kernel
theorem dX0_tie_25 : decode cX0_tie 25 = .ok (.return_, 1) := by decide +kernel
set_option maxRecDepth 20000 in
theorem ggX0_lead_X0_linkSlot : GoodIn wsX0_lead wsX0_linkSlot := goodIn_ca (goodIn_r _ [7, 8, 9, 10, 11, 12, 6, 13, 1, 14, 15, 16, 17, 18, 19, 20, 2, 21, 22, 23, 24, 25, 26, 27, 28, 29, 30, 31, 32, 33, 34] (by decide +kernel) (by decide +kernel)) (goodIn_sub (fun _ h => List.mem_cons_of_mem _ (List.mem_append_right _ h)) (by decide +kernel))
set_option maxRecDepth 20000 in
theorem gX0_lead_X0_linkSlot : GoodIn wsX0_lead (wsV RX0 80 RX0 yX0_linkSlot wsX0_linkSlot) := goodIn_app (goodIn_of _ (by decide +kernel)) ggX0_lead_X0_linkSlot
set_option maxRecDepth 20000 in
theorem ggX0_lead_X0_needRoot : GoodIn wsX0_lead wsX0_needRoot := goodIn_ca (goodIn_r _ [16, 8, 9] (by decide +kernel) (by decide +kernel)) (goodIn_sub (fun _ h => List.mem_cons_of_mem _ (List.mem_append_right _ h)) (by decide +kernel))
set_option maxRecDepth 20000 in
theorem gX0_lead_X0_needRoot : GoodIn wsX0_lead (va_wsS RX0 57 yX0_needRoot wsX0_needRoot) := goodIn_app (goodIn_of _ (by decide +kernel)) ggX0_lead_X0_needRoot
theorem dX0_lead_0 : decode cX0_lead 0 = .ok (.aload_n 0, 1) := by decide +kernel
theorem dX0_lead_1 : decode cX0_lead 1 = .ok (.iload_n 1, 1) := by decide +kernel
theorem dX0_lead_2 : decode cX0_lead 2 = .ok (.iload_n 2, 1) := by decide +kernel
theorem dX0_lead_3 : decode cX0_lead 3 = .ok (.invokevirtual 80, 3) := by decide +kernel
theorem dX0_lead_6 : decode cX0_lead 6 = .ok (.istore 4, 2) := by decide +kernel
theorem dX0_lead_8 : decode cX0_lead 8 = .ok (.iload_n 3, 1) := by decide +kernel
theorem dX0_lead_9 : decode cX0_lead 9 = .ok (.invokestatic 57, 3) := by decide +kernel
theorem dX0_lead_12 : decode cX0_lead 12 = .ok (.aload_n 0, 1) := by decide +kernel
theorem dX0_lead_13 : decode cX0_lead 13 = .ok (.getfield 30, 3) := by decide +kernel
theorem dX0_lead_16 : decode cX0_lead 16 = .ok (.iload_n 3, 1) := by decide +kernel
theorem dX0_lead_17 : decode cX0_lead 17 = .ok (.aload_n 0, 1) := by decide +kernel
theorem dX0_lead_18 : decode cX0_lead 18 = .ok (.getfield 23, 3) := by decide +kernel
theorem dX0_lead_21 : decode cX0_lead 21 = .ok (.iload 4, 2) := by decide +kernel
theorem dX0_lead_23 : decode cX0_lead 23 = .ok (.iaload, 1) := by decide +kernel
theorem dX0_lead_24 : decode cX0_lead 24 = .ok (.iastore, 1) := by decide +kernel
theorem dX0_lead_25 : decode cX0_lead 25 = .ok (.return_, 1) := by decide +kernel
set_option maxRecDepth 20000 in
theorem ggX0_number_X0_valueSlot : GoodIn wsX0_number wsX0_valueSlot := goodIn_ca (goodIn_r _ [8, 1, 2, 9, 10, 11, 7, 12, 13, 14, 15, 16, 17, 18, 19, 20, 3, 21, 22, 23, 24, 25, 26, 27, 28, 33, 34, 35, 36, 37, 38, 39, 40, 41, 42] (by decide +kernel) (by decide +kernel)) (goodIn_sub (fun _ h => List.mem_cons_of_mem _ (List.mem_append_right _ h)) (by decide +kernel))
set_option maxRecDepth 20000 in
theorem gX0_number_X0_valueSlot : GoodIn wsX0_number (wsV RX0 83 RX0 yX0_valueSlot wsX0_valueSlot) := goodIn_app (goodIn_of _ (by decide +kernel)) ggX0_number_X0_valueSlot
set_option maxRecDepth 20000 in
theorem ggX0_number_X0_isReference : GoodIn wsX0_number wsX0_isReference := goodIn_r _ [31, 32] (by decide +kernel) (by decide +kernel)
set_option maxRecDepth 20000 in
theorem gX0_number_X0_isReference : GoodIn wsX0_number (va_wsS RX0 86 yX0_isReference wsX0_isReference) := goodIn_app (goodIn_of _ (by decide +kernel)) ggX0_number_X0_isReference
theorem dX0_number_0 : decode cX0_number 0 = .ok (.aload_n 0, 1) := by decide +kernel
theorem dX0_number_1 : decode cX0_number 1 = .ok (.iload_n 1, 1) := by decide +kernel
theorem dX0_number_2 : decode cX0_number 2 = .ok (.iload_n 2, 1) := by decide +kernel
theorem dX0_number_3 : decode cX0_number 3 = .ok (.invokevirtual 83, 3) := by decide +kernel
theorem dX0_number_6 : decode cX0_number 6 = .ok (.istore 5, 2) := by decide +kernel
theorem dX0_number_8 : decode cX0_number 8 = .ok (.lload_n 3, 1) := by decide +kernel
theorem dX0_number_9 : decode cX0_number 9 = .ok (.bipush 32, 2) := by decide +kernel
theorem dX0_number_11 : decode cX0_number 11 = .ok (.lushr, 1) := by decide +kernel
theorem dX0_number_12 : decode cX0_number 12 = .ok (.l2i, 1) := by decide +kernel
theorem dX0_number_13 : decode cX0_number 13 = .ok (.istore 6, 2) := by decide +kernel
theorem dX0_number_15 : decode cX0_number 15 = .ok (.iload 6, 2) := by decide +kernel
theorem dX0_number_17 : decode cX0_number 17 = .ok (.invokestatic 86, 3) := by decide +kernel
theorem dX0_number_20 : decode cX0_number 20 = .ok (.ifCond .eq 13, 3) := by decide +kernel
theorem dX0_number_23 : decode cX0_number 23 = .ok (.new 65, 3) := by decide +kernel
theorem dX0_number_26 : decode cX0_number 26 = .ok (.dup, 1) := by decide +kernel
theorem dX0_number_27 : decode cX0_number 27 = .ok (.ldc 90, 2) := by decide +kernel
theorem dX0_number_29 : decode cX0_number 29 = .ok (.invokespecial 69, 3) := by decide +kernel
theorem dX0_number_32 : decode cX0_number 32 = .ok (.athrow, 1) := by decide +kernel
theorem dX0_number_33 : decode cX0_number 33 = .ok (.aload_n 0, 1) := by decide +kernel
theorem dX0_number_34 : decode cX0_number 34 = .ok (.getfield 23, 3) := by decide +kernel
theorem dX0_number_37 : decode cX0_number 37 = .ok (.iload 5, 2) := by decide +kernel
theorem dX0_number_39 : decode cX0_number 39 = .ok (.iload 6, 2) := by decide +kernel
theorem dX0_number_41 : decode cX0_number 41 = .ok (.iastore, 1) := by decide +kernel
theorem dX0_number_42 : decode cX0_number 42 = .ok (.aload_n 0, 1) := by decide +kernel
theorem dX0_number_43 : decode cX0_number 43 = .ok (.getfield 23, 3) := by decide +kernel
theorem dX0_number_46 : decode cX0_number 46 = .ok (.iload 5, 2) := by decide +kernel
theorem dX0_number_48 : decode cX0_number 48 = .ok (.iconst 1, 1) := by decide +kernel
theorem dX0_number_49 : decode cX0_number 49 = .ok (.iadd, 1) := by decide +kernel
theorem dX0_number_50 : decode cX0_number 50 = .ok (.lload_n 3, 1) := by decide +kernel
theorem dX0_number_51 : decode cX0_number 51 = .ok (.l2i, 1) := by decide +kernel
theorem dX0_number_52 : decode cX0_number 52 = .ok (.iastore, 1) := by decide +kernel
theorem dX0_number_53 : decode cX0_number 53 = .ok (.return_, 1) := by decide +kernel
set_option maxRecDepth 20000 in
theorem ggX0_refer_X0_valueSlot : GoodIn wsX0_refer wsX0_valueSlot := goodIn_ca (goodIn_r _ [10, 1, 2, 11, 12, 13, 9, 14, 3, 15, 16, 17, 18, 19, 20, 21, 4, 22, 23, 24, 25, 26, 27, 28, 29, 30, 31, 32, 33, 34, 35, 36, 37, 38, 39] (by decide +kernel) (by decide +kernel)) (goodIn_sub (fun _ h => List.mem_cons_of_mem _ (List.mem_append_right _ h)) (by decide +kernel))
set_option maxRecDepth 20000 in
theorem gX0_refer_X0_valueSlot : GoodIn wsX0_refer (wsV RX0 83 RX0 yX0_valueSlot wsX0_valueSlot) := goodIn_app (goodIn_of _ (by decide +kernel)) ggX0_refer_X0_valueSlot
set_option maxRecDepth 20000 in
theorem ggX0_refer_X0_needRoot : GoodIn wsX0_refer wsX0_needRoot := goodIn_ca (goodIn_r _ [17, 1, 2] (by decide +kernel) (by decide +kernel)) (goodIn_sub (fun _ h => List.mem_cons_of_mem _ (List.mem_append_right _ h)) (by decide +kernel))
set_option maxRecDepth 20000 in
theorem gX0_refer_X0_needRoot : GoodIn wsX0_refer (va_wsS RX0 57 yX0_needRoot wsX0_needRoot) := goodIn_app (goodIn_of _ (by decide +kernel)) ggX0_refer_X0_needRoot
theorem dX0_refer_0 : decode cX0_refer 0 = .ok (.aload_n 0, 1) := by decide +kernel
theorem dX0_refer_1 : decode cX0_refer 1 = .ok (.iload_n 1, 1) := by decide +kernel
theorem dX0_refer_2 : decode cX0_refer 2 = .ok (.iload_n 2, 1) := by decide +kernel
theorem dX0_refer_3 : decode cX0_refer 3 = .ok (.invokevirtual 83, 3) := by decide +kernel
theorem dX0_refer_6 : decode cX0_refer 6 = .ok (.istore 4, 2) := by decide +kernel
theorem dX0_refer_8 : decode cX0_refer 8 = .ok (.iload_n 3, 1) := by decide +kernel
theorem dX0_refer_9 : decode cX0_refer 9 = .ok (.invokestatic 57, 3) := by decide +kernel
theorem dX0_refer_12 : decode cX0_refer 12 = .ok (.aload_n 0, 1) := by decide +kernel
theorem dX0_refer_13 : decode cX0_refer 13 = .ok (.getfield 30, 3) := by decide +kernel
theorem dX0_refer_16 : decode cX0_refer 16 = .ok (.iload_n 3, 1) := by decide +kernel
theorem dX0_refer_17 : decode cX0_refer 17 = .ok (.iaload, 1) := by decide +kernel
theorem dX0_refer_18 : decode cX0_refer 18 = .ok (.iconst (-1), 1) := by decide +kernel
theorem dX0_refer_19 : decode cX0_refer 19 = .ok (.if_icmp .ne 13, 3) := by decide +kernel
theorem dX0_refer_22 : decode cX0_refer 22 = .ok (.new 65, 3) := by decide +kernel
theorem dX0_refer_25 : decode cX0_refer 25 = .ok (.dup, 1) := by decide +kernel
theorem dX0_refer_26 : decode cX0_refer 26 = .ok (.ldc 92, 2) := by decide +kernel
theorem dX0_refer_28 : decode cX0_refer 28 = .ok (.invokespecial 69, 3) := by decide +kernel
theorem dX0_refer_31 : decode cX0_refer 31 = .ok (.athrow, 1) := by decide +kernel
theorem dX0_refer_32 : decode cX0_refer 32 = .ok (.aload_n 0, 1) := by decide +kernel
theorem dX0_refer_33 : decode cX0_refer 33 = .ok (.getfield 23, 3) := by decide +kernel
theorem dX0_refer_36 : decode cX0_refer 36 = .ok (.iload 4, 2) := by decide +kernel
theorem dX0_refer_38 : decode cX0_refer 38 = .ok (.ldc 94, 2) := by decide +kernel
theorem dX0_refer_40 : decode cX0_refer 40 = .ok (.iastore, 1) := by decide +kernel
theorem dX0_refer_41 : decode cX0_refer 41 = .ok (.aload_n 0, 1) := by decide +kernel
theorem dX0_refer_42 : decode cX0_refer 42 = .ok (.getfield 23, 3) := by decide +kernel
theorem dX0_refer_45 : decode cX0_refer 45 = .ok (.iload 4, 2) := by decide +kernel
theorem dX0_refer_47 : decode cX0_refer 47 = .ok (.iconst 1, 1) := by decide +kernel
theorem dX0_refer_48 : decode cX0_refer 48 = .ok (.iadd, 1) := by decide +kernel
theorem dX0_refer_49 : decode cX0_refer 49 = .ok (.aload_n 0, 1) := by decide +kernel
theorem dX0_refer_50 : decode cX0_refer 50 = .ok (.getfield 30, 3) := by decide +kernel
theorem dX0_refer_53 : decode cX0_refer 53 = .ok (.iload_n 3, 1) := by decide +kernel
theorem dX0_refer_54 : decode cX0_refer 54 = .ok (.iaload, 1) := by decide +kernel
theorem dX0_refer_55 : decode cX0_refer 55 = .ok (.iastore, 1) := by decide +kernel
theorem dX0_refer_56 : decode cX0_refer 56 = .ok (.return_, 1) := by decide +kernel
set_option maxRecDepth 20000 in
theorem ggX0_bits_X0_valueSlot : GoodIn wsX0_bits wsX0_valueSlot := goodIn_ca (goodIn_r _ [9, 1, 2, 10, 11, 12, 8, 13, 14, 15, 16, 17, 18, 19, 20, 21, 3, 22, 23, 24, 25, 26, 27, 28, 29, 34, 35, 36, 37, 38, 39, 40, 41, 42, 43] (by decide +kernel) (by decide +kernel)) (goodIn_sub (fun _ h => List.mem_cons_of_mem _ (List.mem_append_right _ h)) (by decide +kernel))
set_option maxRecDepth 20000 in
theorem gX0_bits_X0_valueSlot : GoodIn wsX0_bits (wsV RX0 83 RX0 yX0_valueSlot wsX0_valueSlot) := goodIn_app (goodIn_of _ (by decide +kernel)) ggX0_bits_X0_valueSlot
set_option maxRecDepth 20000 in
theorem ggX0_bits_X0_isReference : GoodIn wsX0_bits wsX0_isReference := goodIn_r _ [32, 33] (by decide +kernel) (by decide +kernel)
set_option maxRecDepth 20000 in
theorem gX0_bits_X0_isReference : GoodIn wsX0_bits (va_wsS RX0 86 yX0_isReference wsX0_isReference) := goodIn_app (goodIn_of _ (by decide +kernel)) ggX0_bits_X0_isReference
theorem dX0_bits_0 : decode cX0_bits 0 = .ok (.aload_n 0, 1) := by decide +kernel
theorem dX0_bits_1 : decode cX0_bits 1 = .ok (.iload_n 1, 1) := by decide +kernel
theorem dX0_bits_2 : decode cX0_bits 2 = .ok (.iload_n 2, 1) := by decide +kernel
theorem dX0_bits_3 : decode cX0_bits 3 = .ok (.invokevirtual 83, 3) := by decide +kernel
theorem dX0_bits_6 : decode cX0_bits 6 = .ok (.istore_n 3, 1) := by decide +kernel
theorem dX0_bits_7 : decode cX0_bits 7 = .ok (.aload_n 0, 1) := by decide +kernel
theorem dX0_bits_8 : decode cX0_bits 8 = .ok (.getfield 23, 3) := by decide +kernel
theorem dX0_bits_11 : decode cX0_bits 11 = .ok (.iload_n 3, 1) := by decide +kernel
theorem dX0_bits_12 : decode cX0_bits 12 = .ok (.iaload, 1) := by decide +kernel
theorem dX0_bits_13 : decode cX0_bits 13 = .ok (.invokestatic 86, 3) := by decide +kernel
theorem dX0_bits_16 : decode cX0_bits 16 = .ok (.ifCond .eq 13, 3) := by decide +kernel
theorem dX0_bits_19 : decode cX0_bits 19 = .ok (.new 65, 3) := by decide +kernel
theorem dX0_bits_22 : decode cX0_bits 22 = .ok (.dup, 1) := by decide +kernel
theorem dX0_bits_23 : decode cX0_bits 23 = .ok (.ldc 95, 2) := by decide +kernel
theorem dX0_bits_25 : decode cX0_bits 25 = .ok (.invokespecial 69, 3) := by decide +kernel
theorem dX0_bits_28 : decode cX0_bits 28 = .ok (.athrow, 1) := by decide +kernel
theorem dX0_bits_29 : decode cX0_bits 29 = .ok (.aload_n 0, 1) := by decide +kernel
theorem dX0_bits_30 : decode cX0_bits 30 = .ok (.getfield 23, 3) := by decide +kernel
theorem dX0_bits_33 : decode cX0_bits 33 = .ok (.iload_n 3, 1) := by decide +kernel
theorem dX0_bits_34 : decode cX0_bits 34 = .ok (.iaload, 1) := by decide +kernel
theorem dX0_bits_35 : decode cX0_bits 35 = .ok (.i2l, 1) := by decide +kernel
theorem dX0_bits_36 : decode cX0_bits 36 = .ok (.bipush 32, 2) := by decide +kernel
theorem dX0_bits_38 : decode cX0_bits 38 = .ok (.lshl, 1) := by decide +kernel
theorem dX0_bits_39 : decode cX0_bits 39 = .ok (.aload_n 0, 1) := by decide +kernel
theorem dX0_bits_40 : decode cX0_bits 40 = .ok (.getfield 23, 3) := by decide +kernel
theorem dX0_bits_43 : decode cX0_bits 43 = .ok (.iload_n 3, 1) := by decide +kernel
theorem dX0_bits_44 : decode cX0_bits 44 = .ok (.iconst 1, 1) := by decide +kernel
theorem dX0_bits_45 : decode cX0_bits 45 = .ok (.iadd, 1) := by decide +kernel
theorem dX0_bits_46 : decode cX0_bits 46 = .ok (.iaload, 1) := by decide +kernel
theorem dX0_bits_47 : decode cX0_bits 47 = .ok (.i2l, 1) := by decide +kernel
theorem dX0_bits_48 : decode cX0_bits 48 = .ok (.ldc2_w 97, 3) := by decide +kernel
theorem dX0_bits_51 : decode cX0_bits 51 = .ok (.land, 1) := by decide +kernel
theorem dX0_bits_52 : decode cX0_bits 52 = .ok (.lor, 1) := by decide +kernel
theorem dX0_bits_53 : decode cX0_bits 53 = .ok (.lreturn, 1) := by decide +kernel
set_option maxRecDepth 20000 in
theorem ggX0_follow_X0_valueSlot : GoodIn wsX0_follow wsX0_valueSlot := goodIn_ca (goodIn_r _ [7, 8, 9, 10, 11, 12, 6, 13, 2, 14, 15, 16, 17, 18, 19, 20, 1, 21, 22, 23, 24, 25, 26, 27, 28, 33, 34, 35, 36, 37, 38, 39, 40, 41, 42] (by decide +kernel) (by decide +kernel)) (goodIn_sub (fun _ h => List.mem_cons_of_mem _ (List.mem_append_right _ h)) (by decide +kernel))
set_option maxRecDepth 20000 in
theorem gX0_follow_X0_valueSlot : GoodIn wsX0_follow (wsV RX0 83 RX0 yX0_valueSlot wsX0_valueSlot) := goodIn_app (goodIn_of _ (by decide +kernel)) ggX0_follow_X0_valueSlot
set_option maxRecDepth 20000 in
theorem ggX0_follow_X0_needRoot : GoodIn wsX0_follow wsX0_needRoot := goodIn_ca (goodIn_r _ [16, 8, 9] (by decide +kernel) (by decide +kernel)) (goodIn_sub (fun _ h => List.mem_cons_of_mem _ (List.mem_append_right _ h)) (by decide +kernel))
set_option maxRecDepth 20000 in
theorem gX0_follow_X0_needRoot : GoodIn wsX0_follow (va_wsS RX0 57 yX0_needRoot wsX0_needRoot) := goodIn_app (goodIn_of _ (by decide +kernel)) ggX0_follow_X0_needRoot
set_option maxRecDepth 20000 in
theorem ggX0_follow_X0_isReference : GoodIn wsX0_follow wsX0_isReference := goodIn_r _ [31, 32] (by decide +kernel) (by decide +kernel)
set_option maxRecDepth 20000 in
theorem gX0_follow_X0_isReference : GoodIn wsX0_follow (va_wsS RX0 86 yX0_isReference wsX0_isReference) := goodIn_app (goodIn_of _ (by decide +kernel)) ggX0_follow_X0_isReference
theorem dX0_follow_0 : decode cX0_follow 0 = .ok (.aload_n 0, 1) := by decide +kernel
theorem dX0_follow_1 : decode cX0_follow 1 = .ok (.iload_n 1, 1) := by decide +kernel
theorem dX0_follow_2 : decode cX0_follow 2 = .ok (.iload_n 2, 1) := by decide +kernel
theorem dX0_follow_3 : decode cX0_follow 3 = .ok (.invokevirtual 83, 3) := by decide +kernel
theorem dX0_follow_6 : decode cX0_follow 6 = .ok (.istore 4, 2) := by decide +kernel
theorem dX0_follow_8 : decode cX0_follow 8 = .ok (.iload_n 3, 1) := by decide +kernel
theorem dX0_follow_9 : decode cX0_follow 9 = .ok (.invokestatic 57, 3) := by decide +kernel
theorem dX0_follow_12 : decode cX0_follow 12 = .ok (.aload_n 0, 1) := by decide +kernel
theorem dX0_follow_13 : decode cX0_follow 13 = .ok (.getfield 23, 3) := by decide +kernel
theorem dX0_follow_16 : decode cX0_follow 16 = .ok (.iload 4, 2) := by decide +kernel
theorem dX0_follow_18 : decode cX0_follow 18 = .ok (.iaload, 1) := by decide +kernel
theorem dX0_follow_19 : decode cX0_follow 19 = .ok (.invokestatic 86, 3) := by decide +kernel
theorem dX0_follow_22 : decode cX0_follow 22 = .ok (.ifCond .ne 5, 3) := by decide +kernel
theorem dX0_follow_25 : decode cX0_follow 25 = .ok (.iconst 0, 1) := by decide +kernel
theorem dX0_follow_26 : decode cX0_follow 26 = .ok (.ireturn, 1) := by decide +kernel
theorem dX0_follow_27 : decode cX0_follow 27 = .ok (.aload_n 0, 1) := by decide +kernel
theorem dX0_follow_28 : decode cX0_follow 28 = .ok (.getfield 30, 3) := by decide +kernel
theorem dX0_follow_31 : decode cX0_follow 31 = .ok (.iload_n 3, 1) := by decide +kernel
theorem dX0_follow_32 : decode cX0_follow 32 = .ok (.aload_n 0, 1) := by decide +kernel
theorem dX0_follow_33 : decode cX0_follow 33 = .ok (.getfield 23, 3) := by decide +kernel
theorem dX0_follow_36 : decode cX0_follow 36 = .ok (.iload 4, 2) := by decide +kernel
theorem dX0_follow_38 : decode cX0_follow 38 = .ok (.iconst 1, 1) := by decide +kernel
theorem dX0_follow_39 : decode cX0_follow 39 = .ok (.iadd, 1) := by decide +kernel
theorem dX0_follow_40 : decode cX0_follow 40 = .ok (.iaload, 1) := by decide +kernel
theorem dX0_follow_41 : decode cX0_follow 41 = .ok (.iastore, 1) := by decide +kernel
theorem dX0_follow_42 : decode cX0_follow 42 = .ok (.iconst 1, 1) := by decide +kernel
theorem dX0_follow_43 : decode cX0_follow 43 = .ok (.ireturn, 1) := by decide +kernel
set_option maxRecDepth 20000 in
theorem ggX0_set_X0_plainSlot : GoodIn wsX0_set wsX0_plainSlot := goodIn_ca (goodIn_r _ [6, 7, 8, 9, 10, 11, 5, 12, 13, 14, 15, 16, 17, 18, 19, 20, 1, 21, 22, 23, 24, 25, 26, 27, 28, 29, 30, 31, 32, 33, 34, 35, 36, 37, 38, 39, 40, 41, 42] (by decide +kernel) (by decide +kernel)) (goodIn_sub (fun _ h => List.mem_cons_of_mem _ (List.mem_append_right _ h)) (by decide +kernel))
set_option maxRecDepth 20000 in
theorem gX0_set_X0_plainSlot : GoodIn wsX0_set (wsV RX0 99 RX0 yX0_plainSlot wsX0_plainSlot) := goodIn_app (goodIn_of _ (by decide +kernel)) ggX0_set_X0_plainSlot
theorem dX0_set_0 : decode cX0_set 0 = .ok (.aload_n 0, 1) := by decide +kernel
theorem dX0_set_1 : decode cX0_set 1 = .ok (.getfield 23, 3) := by decide +kernel
theorem dX0_set_4 : decode cX0_set 4 = .ok (.aload_n 0, 1) := by decide +kernel
theorem dX0_set_5 : decode cX0_set 5 = .ok (.iload_n 1, 1) := by decide +kernel
theorem dX0_set_6 : decode cX0_set 6 = .ok (.iload_n 2, 1) := by decide +kernel
theorem dX0_set_7 : decode cX0_set 7 = .ok (.invokevirtual 99, 3) := by decide +kernel
theorem dX0_set_10 : decode cX0_set 10 = .ok (.iload_n 3, 1) := by decide +kernel
theorem dX0_set_11 : decode cX0_set 11 = .ok (.iastore, 1) := by decide +kernel
theorem dX0_set_12 : decode cX0_set 12 = .ok (.return_, 1) := by decide +kernel
set_option maxRecDepth 20000 in
theorem ggX0_get_X0_plainSlot : GoodIn wsX0_get wsX0_plainSlot := goodIn_ca (goodIn_r _ [6, 7, 8, 9, 10, 11, 5, 12, 13, 14, 15, 16, 17, 18, 19, 20, 1, 21, 22, 23, 24, 25, 26, 27, 28, 29, 30, 31, 32, 33, 34, 35, 36, 37, 38, 39, 40, 41, 42] (by decide +kernel) (by decide +kernel)) (goodIn_sub (fun _ h => List.mem_cons_of_mem _ (List.mem_append_right _ h)) (by decide +kernel))
set_option maxRecDepth 20000 in
theorem gX0_get_X0_plainSlot : GoodIn wsX0_get (wsV RX0 99 RX0 yX0_plainSlot wsX0_plainSlot) := goodIn_app (goodIn_of _ (by decide +kernel)) ggX0_get_X0_plainSlot
theorem dX0_get_0 : decode cX0_get 0 = .ok (.aload_n 0, 1) := by decide +kernel
theorem dX0_get_1 : decode cX0_get 1 = .ok (.getfield 23, 3) := by decide +kernel
theorem dX0_get_4 : decode cX0_get 4 = .ok (.aload_n 0, 1) := by decide +kernel
theorem dX0_get_5 : decode cX0_get 5 = .ok (.iload_n 1, 1) := by decide +kernel
theorem dX0_get_6 : decode cX0_get 6 = .ok (.iload_n 2, 1) := by decide +kernel
theorem dX0_get_7 : decode cX0_get 7 = .ok (.invokevirtual 99, 3) := by decide +kernel
theorem dX0_get_10 : decode cX0_get 10 = .ok (.iaload, 1) := by decide +kernel
theorem dX0_get_11 : decode cX0_get 11 = .ok (.ireturn, 1) := by decide +kernel
set_option maxRecDepth 20000 in
theorem ggX0_text_X0_needRoot : GoodIn wsX0_text wsX0_needRoot := goodIn_ca (goodIn_r _ [8, 1, 2] (by decide +kernel) (by decide +kernel)) (goodIn_sub (fun _ h => List.mem_cons_of_mem _ (List.mem_append_left _ (List.mem_append_right _ h))) (by decide +kernel))
set_option maxRecDepth 20000 in
theorem gX0_text_X0_needRoot : GoodIn wsX0_text (va_wsS RX0 57 yX0_needRoot wsX0_needRoot) := goodIn_app (goodIn_of _ (by decide +kernel)) ggX0_text_X0_needRoot
set_option maxRecDepth 20000 in
theorem ggX0_text_X0_isUpTo : GoodIn wsX0_text wsX0_isUpTo := goodIn_r _ [11] (by decide +kernel) (by decide +kernel)
set_option maxRecDepth 20000 in
theorem gX0_text_X0_isUpTo : GoodIn wsX0_text (va_wsS RX0 61 yX0_isUpTo wsX0_isUpTo) := goodIn_app (goodIn_of _ (by decide +kernel)) ggX0_text_X0_isUpTo
set_option maxRecDepth 20000 in
theorem ggX0_text_X0_makeFlat : GoodIn wsX0_text wsX0_makeFlat := goodIn_ca (goodIn_r _ [15, 16, 17, 18, 7, 19, 20, 21, 22, 23, 24, 25, 26, 27, 28, 29, 30, 31, 32, 33, 34, 35, 36, 37, 38, 39, 40, 41, 42, 43, 4, 44, 45, 46, 47, 48, 49, 50, 51, 52, 53, 54, 55, 56, 57, 58, 59, 60, 61, 62, 63, 64, 65, 66, 67, 68, 69, 70, 71, 72, 73, 74, 75, 76, 77, 78, 79, 80, 81, 82, 83, 84, 85, 86, 87, 88, 89, 90, 91, 92, 93, 94, 95, 96, 97, 98, 99, 100, 101, 102, 103, 104, 105, 106, 107, 108, 109, 110, 111, 112, 113, 114, 115, 116, 117, 118, 119, 120, 121, 126, 127, 128, 129, 130, 131, 132, 133, 134, 135, 136, 137, 138, 139] (by decide +kernel) (by decide +kernel)) (goodIn_sub (fun _ h => List.mem_cons_of_mem _ (List.mem_append_right _ h)) (by decide +kernel))
set_option maxRecDepth 20000 in
theorem gX0_text_X0_makeFlat : GoodIn wsX0_text (wsV RX0 104 RX0 yX0_makeFlat wsX0_makeFlat) := goodIn_app (goodIn_of _ (by decide +kernel)) ggX0_text_X0_makeFlat
set_option maxRecDepth 20000 in
theorem ggX0_text_X0_putUnit : GoodIn wsX0_text wsX0_putUnit := goodIn_r _ [125, 22, 126, 127, 128, 129, 130, 131, 132, 133, 134, 135] (by decide +kernel) (by decide +kernel)
set_option maxRecDepth 20000 in
theorem gX0_text_X0_putUnit : GoodIn wsX0_text (wsV RX0 108 RX0 yX0_putUnit wsX0_putUnit) := goodIn_app (goodIn_of _ (by decide +kernel)) ggX0_text_X0_putUnit
theorem dX0_text_0 : decode cX0_text 0 = .ok (.iload_n 1, 1) := by decide +kernel
theorem dX0_text_1 : decode cX0_text 1 = .ok (.invokestatic 57, 3) := by decide +kernel
theorem dX0_text_4 : decode cX0_text 4 = .ok (.iload 4, 2) := by decide +kernel
theorem dX0_text_6 : decode cX0_text 6 = .ok (.iconst 4, 1) := by decide +kernel
theorem dX0_text_7 : decode cX0_text 7 = .ok (.invokestatic 61, 3) := by decide +kernel
theorem dX0_text_10 : decode cX0_text 10 = .ok (.ifCond .ne 13, 3) := by decide +kernel
theorem dX0_text_13 : decode cX0_text 13 = .ok (.new 65, 3) := by decide +kernel
theorem dX0_text_16 : decode cX0_text 16 = .ok (.dup, 1) := by decide +kernel
theorem dX0_text_17 : decode cX0_text 17 = .ok (.ldc 102, 2) := by decide +kernel
theorem dX0_text_19 : decode cX0_text 19 = .ok (.invokespecial 69, 3) := by decide +kernel
theorem dX0_text_22 : decode cX0_text 22 = .ok (.athrow, 1) := by decide +kernel
theorem dX0_text_23 : decode cX0_text 23 = .ok (.aload_n 0, 1) := by decide +kernel
theorem dX0_text_24 : decode cX0_text 24 = .ok (.iconst 2, 1) := by decide +kernel
theorem dX0_text_25 : decode cX0_text 25 = .ok (.iload 4, 2) := by decide +kernel
theorem dX0_text_27 : decode cX0_text 27 = .ok (.invokevirtual 104, 3) := by decide +kernel
theorem dX0_text_30 : decode cX0_text 30 = .ok (.istore 5, 2) := by decide +kernel
theorem dX0_text_32 : decode cX0_text 32 = .ok (.iconst 0, 1) := by decide +kernel
theorem dX0_text_33 : decode cX0_text 33 = .ok (.istore 6, 2) := by decide +kernel
theorem dX0_text_35 : decode cX0_text 35 = .ok (.iload 6, 2) := by decide +kernel
theorem dX0_text_37 : decode cX0_text 37 = .ok (.iload 4, 2) := by decide +kernel
theorem dX0_text_39 : decode cX0_text 39 = .ok (.if_icmp .ge 37, 3) := by decide +kernel
theorem dX0_text_42 : decode cX0_text 42 = .ok (.iload 4, 2) := by decide +kernel
theorem dX0_text_44 : decode cX0_text 44 = .ok (.iconst 1, 1) := by decide +kernel
theorem dX0_text_45 : decode cX0_text 45 = .ok (.isub, 1) := by decide +kernel
theorem dX0_text_46 : decode cX0_text 46 = .ok (.iload 6, 2) := by decide +kernel
theorem dX0_text_48 : decode cX0_text 48 = .ok (.isub, 1) := by decide +kernel
theorem dX0_text_49 : decode cX0_text 49 = .ok (.istore 7, 2) := by decide +kernel
theorem dX0_text_51 : decode cX0_text 51 = .ok (.aload_n 0, 1) := by decide +kernel
theorem dX0_text_52 : decode cX0_text 52 = .ok (.iload 5, 2) := by decide +kernel
theorem dX0_text_54 : decode cX0_text 54 = .ok (.iload 6, 2) := by decide +kernel
theorem dX0_text_56 : decode cX0_text 56 = .ok (.lload_n 2, 1) := by decide +kernel
theorem dX0_text_57 : decode cX0_text 57 = .ok (.bipush 16, 2) := by decide +kernel
theorem dX0_text_59 : decode cX0_text 59 = .ok (.iload 7, 2) := by decide +kernel
theorem dX0_text_61 : decode cX0_text 61 = .ok (.imul, 1) := by decide +kernel
theorem dX0_text_62 : decode cX0_text 62 = .ok (.lushr, 1) := by decide +kernel
theorem dX0_text_63 : decode cX0_text 63 = .ok (.l2i, 1) := by decide +kernel
theorem dX0_text_64 : decode cX0_text 64 = .ok (.ldc 107, 2) := by decide +kernel
theorem dX0_text_66 : decode cX0_text 66 = .ok (.iand, 1) := by decide +kernel
theorem dX0_text_67 : decode cX0_text 67 = .ok (.invokevirtual 108, 3) := by decide +kernel
theorem dX0_text_70 : decode cX0_text 70 = .ok (.iinc 6 1, 3) := by decide +kernel
theorem dX0_text_73 : decode cX0_text 73 = .ok (.goto (-38), 3) := by decide +kernel
theorem dX0_text_76 : decode cX0_text 76 = .ok (.aload_n 0, 1) := by decide +kernel
theorem dX0_text_77 : decode cX0_text 77 = .ok (.getfield 30, 3) := by decide +kernel
theorem dX0_text_80 : decode cX0_text 80 = .ok (.iload_n 1, 1) := by decide +kernel
theorem dX0_text_81 : decode cX0_text 81 = .ok (.iload 5, 2) := by decide +kernel
theorem dX0_text_83 : decode cX0_text 83 = .ok (.iastore, 1) := by decide +kernel
theorem dX0_text_84 : decode cX0_text 84 = .ok (.return_, 1) := by decide +kernel
