set_option maxRecDepth 20000 in
theorem ggX0_init_J7_fill_53178 : GoodIn wsX0_init wsJ7_fill_53178 := goodIn_r _ [26] (by decide +kernel) (by decide +kernel)
set_option maxRecDepth 20000 in
theorem gX0_init_J7_fill_53178 : GoodIn wsX0_init (va_wsS RX0 33 yJ7_fill_53178 wsJ7_fill_53178) := goodIn_app (goodIn_of _ (by decide +kernel)) ggX0_init_J7_fill_53178
theorem dX0_init_0 : decode cX0_init 0 = .ok (.aload_n 0, 1) := by decide +kernel
theorem dX0_init_1 : decode cX0_init 1 = .ok (.invokespecial 3, 3) := by decide +kernel
theorem dX0_init_4 : decode cX0_init 4 = .ok (.aload_n 0, 1) := by decide +kernel
theorem dX0_init_5 : decode cX0_init 5 = .ok (.bipush 16, 2) := by decide +kernel
theorem dX0_init_7 : decode cX0_init 7 = .ok (.iload_n 1, 1) := by decide +kernel
theorem dX0_init_8 : decode cX0_init 8 = .ok (.ldc 9, 2) := by decide +kernel
theorem dX0_init_10 : decode cX0_init 10 = .ok (.invokestatic 10, 3) := by decide +kernel
theorem dX0_init_13 : decode cX0_init 13 = .ok (.invokestatic 16, 3) := by decide +kernel
theorem dX0_init_16 : decode cX0_init 16 = .ok (.putfield 19, 3) := by decide +kernel
theorem dX0_init_19 : decode cX0_init 19 = .ok (.aload_n 0, 1) := by decide +kernel
theorem dX0_init_20 : decode cX0_init 20 = .ok (.aload_n 0, 1) := by decide +kernel
theorem dX0_init_21 : decode cX0_init 21 = .ok (.getfield 19, 3) := by decide +kernel
theorem dX0_init_24 : decode cX0_init 24 = .ok (.sipush 256, 3) := by decide +kernel
theorem dX0_init_27 : decode cX0_init 27 = .ok (.invokestatic 10, 3) := by decide +kernel
theorem dX0_init_30 : decode cX0_init 30 = .ok (.newarray .int, 2) := by decide +kernel
theorem dX0_init_32 : decode cX0_init 32 = .ok (.putfield 23, 3) := by decide +kernel
theorem dX0_init_35 : decode cX0_init 35 = .ok (.aload_n 0, 1) := by decide +kernel
theorem dX0_init_36 : decode cX0_init 36 = .ok (.iconst 0, 1) := by decide +kernel
theorem dX0_init_37 : decode cX0_init 37 = .ok (.putfield 27, 3) := by decide +kernel
theorem dX0_init_40 : decode cX0_init 40 = .ok (.aload_n 0, 1) := by decide +kernel
theorem dX0_init_41 : decode cX0_init 41 = .ok (.bipush 24, 2) := by decide +kernel
theorem dX0_init_43 : decode cX0_init 43 = .ok (.newarray .int, 2) := by decide +kernel
theorem dX0_init_45 : decode cX0_init 45 = .ok (.putfield 30, 3) := by decide +kernel
theorem dX0_init_48 : decode cX0_init 48 = .ok (.aload_n 0, 1) := by decide +kernel
theorem dX0_init_49 : decode cX0_init 49 = .ok (.getfield 30, 3) := by decide +kernel
theorem dX0_init_52 : decode cX0_init 52 = .ok (.iconst (-1), 1) := by decide +kernel
theorem dX0_init_53 : decode cX0_init 53 = .ok (.invokestatic 33, 3) := by decide +kernel
theorem dX0_init_56 : decode cX0_init 56 = .ok (.aload_n 0, 1) := by decide +kernel
theorem dX0_init_57 : decode cX0_init 57 = .ok (.bipush 16, 2) := by decide +kernel
theorem dX0_init_59 : decode cX0_init 59 = .ok (.newarray .int, 2) := by decide +kernel
theorem dX0_init_61 : decode cX0_init 61 = .ok (.putfield 39, 3) := by decide +kernel
theorem dX0_init_64 : decode cX0_init 64 = .ok (.aload_n 0, 1) := by decide +kernel
theorem dX0_init_65 : decode cX0_init 65 = .ok (.iconst 0, 1) := by decide +kernel
theorem dX0_init_66 : decode cX0_init 66 = .ok (.putfield 42, 3) := by decide +kernel
theorem dX0_init_69 : decode cX0_init 69 = .ok (.aload_n 0, 1) := by decide +kernel
theorem dX0_init_70 : decode cX0_init 70 = .ok (.sipush 4000, 3) := by decide +kernel
theorem dX0_init_73 : decode cX0_init 73 = .ok (.newarray .int, 2) := by decide +kernel
theorem dX0_init_75 : decode cX0_init 75 = .ok (.putfield 45, 3) := by decide +kernel
theorem dX0_init_78 : decode cX0_init 78 = .ok (.aload_n 0, 1) := by decide +kernel
theorem dX0_init_79 : decode cX0_init 79 = .ok (.iconst (-1), 1) := by decide +kernel
theorem dX0_init_80 : decode cX0_init 80 = .ok (.putfield 48, 3) := by decide +kernel
theorem dX0_init_83 : decode cX0_init 83 = .ok (.aload_n 0, 1) := by decide +kernel
theorem dX0_init_84 : decode cX0_init 84 = .ok (.iconst 0, 1) := by decide +kernel
theorem dX0_init_85 : decode cX0_init 85 = .ok (.putfield 51, 3) := by decide +kernel
theorem dX0_init_88 : decode cX0_init 88 = .ok (.aload_n 0, 1) := by decide +kernel
theorem dX0_init_89 : decode cX0_init 89 = .ok (.iconst 0, 1) := by decide +kernel
theorem dX0_init_90 : decode cX0_init 90 = .ok (.putfield 54, 3) := by decide +kernel
theorem dX0_init_93 : decode cX0_init 93 = .ok (.return_, 1) := by decide +kernel
set_option maxRecDepth 20000 in
theorem ggX0_take_X0_needRoot : GoodIn wsX0_take wsX0_needRoot := goodIn_ca (goodIn_r _ [7, 1, 2] (by decide +kernel) (by decide +kernel)) (goodIn_sub (fun _ h => List.mem_cons_of_mem _ (List.mem_append_left _ (List.mem_append_right _ h))) (by decide +kernel))
set_option maxRecDepth 20000 in
theorem gX0_take_X0_needRoot : GoodIn wsX0_take (va_wsS RX0 57 yX0_needRoot wsX0_needRoot) := goodIn_app (goodIn_of _ (by decide +kernel)) ggX0_take_X0_needRoot
set_option maxRecDepth 20000 in
theorem ggX0_take_X0_isUpTo : GoodIn wsX0_take wsX0_isUpTo := goodIn_r _ [10] (by decide +kernel) (by decide +kernel)
set_option maxRecDepth 20000 in
theorem gX0_take_X0_isUpTo : GoodIn wsX0_take (va_wsS RX0 61 yX0_isUpTo wsX0_isUpTo) := goodIn_app (goodIn_of _ (by decide +kernel)) ggX0_take_X0_isUpTo
set_option maxRecDepth 20000 in
theorem ggX0_take_X0_make : GoodIn wsX0_take wsX0_make := goodIn_ca (goodIn_r _ [14, 15, 16, 17, 18, 19, 20, 21, 22, 23, 6, 24, 25, 26, 27, 28, 29, 30, 31, 32, 33, 34, 3, 35, 36, 37, 38, 39, 40, 41, 42, 43, 44, 45, 46, 47, 48, 49, 50, 51, 52, 53, 54, 55, 56, 57, 58, 59, 60, 61, 62, 63, 64, 65, 66, 67, 68, 69, 70, 71, 72, 73, 74, 75, 76, 77, 78, 79, 80, 81, 82, 83, 84, 85, 86, 87, 88, 89, 90, 91, 92, 93, 94, 95, 96, 97, 98, 99, 100, 101, 102, 103, 104, 105, 106, 107, 108, 109, 110, 111, 112, 113, 114, 115, 116, 117, 118, 119, 120, 121, 122, 123] (by decide +kernel) (by decide +kernel)) (goodIn_sub (fun _ h => List.mem_cons_of_mem _ (List.mem_append_right _ h)) (by decide +kernel))
set_option maxRecDepth 20000 in
theorem gX0_take_X0_make : GoodIn wsX0_take (wsV RX0 72 RX0 yX0_make wsX0_make) := goodIn_app (goodIn_of _ (by decide +kernel)) ggX0_take_X0_make
theorem dX0_take_0 : decode cX0_take 0 = .ok (.iload_n 1, 1) := by decide +kernel
theorem dX0_take_1 : decode cX0_take 1 = .ok (.invokestatic 57, 3) := by decide +kernel
theorem dX0_take_4 : decode cX0_take 4 = .ok (.iload_n 2, 1) := by decide +kernel
theorem dX0_take_5 : decode cX0_take 5 = .ok (.bipush 8, 2) := by decide +kernel
theorem dX0_take_7 : decode cX0_take 7 = .ok (.invokestatic 61, 3) := by decide +kernel
theorem dX0_take_10 : decode cX0_take 10 = .ok (.ifCond .eq 22, 3) := by decide +kernel
theorem dX0_take_13 : decode cX0_take 13 = .ok (.iload_n 3, 1) := by decide +kernel
theorem dX0_take_14 : decode cX0_take 14 = .ok (.bipush 8, 2) := by decide +kernel
theorem dX0_take_16 : decode cX0_take 16 = .ok (.invokestatic 61, 3) := by decide +kernel
theorem dX0_take_19 : decode cX0_take 19 = .ok (.ifCond .eq 13, 3) := by decide +kernel
theorem dX0_take_22 : decode cX0_take 22 = .ok (.iload 4, 2) := by decide +kernel
theorem dX0_take_24 : decode cX0_take 24 = .ok (.bipush 16, 2) := by decide +kernel
theorem dX0_take_26 : decode cX0_take 26 = .ok (.invokestatic 61, 3) := by decide +kernel
theorem dX0_take_29 : decode cX0_take 29 = .ok (.ifCond .ne 13, 3) := by decide +kernel
theorem dX0_take_32 : decode cX0_take 32 = .ok (.new 65, 3) := by decide +kernel
theorem dX0_take_35 : decode cX0_take 35 = .ok (.dup, 1) := by decide +kernel
theorem dX0_take_36 : decode cX0_take 36 = .ok (.ldc 67, 2) := by decide +kernel
theorem dX0_take_38 : decode cX0_take 38 = .ok (.invokespecial 69, 3) := by decide +kernel
theorem dX0_take_41 : decode cX0_take 41 = .ok (.athrow, 1) := by decide +kernel
theorem dX0_take_42 : decode cX0_take 42 = .ok (.aload_n 0, 1) := by decide +kernel
theorem dX0_take_43 : decode cX0_take 43 = .ok (.getfield 30, 3) := by decide +kernel
theorem dX0_take_46 : decode cX0_take 46 = .ok (.iload_n 1, 1) := by decide +kernel
theorem dX0_take_47 : decode cX0_take 47 = .ok (.aload_n 0, 1) := by decide +kernel
theorem dX0_take_48 : decode cX0_take 48 = .ok (.iconst 1, 1) := by decide +kernel
theorem dX0_take_49 : decode cX0_take 49 = .ok (.iload_n 2, 1) := by decide +kernel
theorem dX0_take_50 : decode cX0_take 50 = .ok (.iload_n 3, 1) := by decide +kernel
theorem dX0_take_51 : decode cX0_take 51 = .ok (.iload 4, 2) := by decide +kernel
theorem dX0_take_53 : decode cX0_take 53 = .ok (.invokevirtual 72, 3) := by decide +kernel
theorem dX0_take_56 : decode cX0_take 56 = .ok (.iastore, 1) := by decide +kernel
theorem dX0_take_57 : decode cX0_take 57 = .ok (.return_, 1) := by decide +kernel
set_option maxRecDepth 20000 in
theorem ggX0_copy_X0_needRoot : GoodIn wsX0_copy wsX0_needRoot := goodIn_ca (goodIn_r _ [5, 6, 7] (by decide +kernel) (by decide +kernel)) (goodIn_sub (fun _ h => List.mem_cons_of_mem _ (List.mem_append_right _ h)) (by decide +kernel))
set_option maxRecDepth 20000 in
theorem gX0_copy_X0_needRoot : GoodIn wsX0_copy (va_wsS RX0 57 yX0_needRoot wsX0_needRoot) := goodIn_app (goodIn_of _ (by decide +kernel)) ggX0_copy_X0_needRoot
theorem dX0_copy_0 : decode cX0_copy 0 = .ok (.iload_n 1, 1) := by decide +kernel
theorem dX0_copy_1 : decode cX0_copy 1 = .ok (.invokestatic 57, 3) := by decide +kernel
theorem dX0_copy_4 : decode cX0_copy 4 = .ok (.iload_n 2, 1) := by decide +kernel
theorem dX0_copy_5 : decode cX0_copy 5 = .ok (.invokestatic 57, 3) := by decide +kernel
theorem dX0_copy_8 : decode cX0_copy 8 = .ok (.aload_n 0, 1) := by decide +kernel
theorem dX0_copy_9 : decode cX0_copy 9 = .ok (.getfield 30, 3) := by decide +kernel
theorem dX0_copy_12 : decode cX0_copy 12 = .ok (.iload_n 1, 1) := by decide +kernel
theorem dX0_copy_13 : decode cX0_copy 13 = .ok (.aload_n 0, 1) := by decide +kernel
theorem dX0_copy_14 : decode cX0_copy 14 = .ok (.getfield 30, 3) := by decide +kernel
theorem dX0_copy_17 : decode cX0_copy 17 = .ok (.iload_n 2, 1) := by decide +kernel
theorem dX0_copy_18 : decode cX0_copy 18 = .ok (.iaload, 1) := by decide +kernel
theorem dX0_copy_19 : decode cX0_copy 19 = .ok (.iastore, 1) := by decide +kernel
theorem dX0_copy_20 : decode cX0_copy 20 = .ok (.return_, 1) := by decide +kernel
set_option maxRecDepth 20000 in
theorem ggX0_drop_X0_needRoot : GoodIn wsX0_drop wsX0_needRoot := goodIn_ca (goodIn_r _ [5, 6, 7] (by decide +kernel) (by decide +kernel)) (goodIn_sub (fun _ h => List.mem_cons_of_mem _ (List.mem_append_right _ h)) (by decide +kernel))
set_option maxRecDepth 20000 in
theorem gX0_drop_X0_needRoot : GoodIn wsX0_drop (va_wsS RX0 57 yX0_needRoot wsX0_needRoot) := goodIn_app (goodIn_of _ (by decide +kernel)) ggX0_drop_X0_needRoot
theorem dX0_drop_0 : decode cX0_drop 0 = .ok (.iload_n 1, 1) := by decide +kernel
theorem dX0_drop_1 : decode cX0_drop 1 = .ok (.invokestatic 57, 3) := by decide +kernel
theorem dX0_drop_4 : decode cX0_drop 4 = .ok (.aload_n 0, 1) := by decide +kernel
theorem dX0_drop_5 : decode cX0_drop 5 = .ok (.getfield 30, 3) := by decide +kernel
theorem dX0_drop_8 : decode cX0_drop 8 = .ok (.iload_n 1, 1) := by decide +kernel
theorem dX0_drop_9 : decode cX0_drop 9 = .ok (.iconst (-1), 1) := by decide +kernel
theorem dX0_drop_10 : decode cX0_drop 10 = .ok (.iastore, 1) := by decide +kernel
theorem dX0_drop_11 : decode cX0_drop 11 = .ok (.return_, 1) := by decide +kernel
set_option maxRecDepth 20000 in
theorem ggX0_kind_X0_needRoot : GoodIn wsX0_kind wsX0_needRoot := goodIn_ca (goodIn_r _ [5, 6, 7] (by decide +kernel) (by decide +kernel)) (goodIn_sub (fun _ h => List.mem_cons_of_mem _ (List.mem_append_right _ h)) (by decide +kernel))
set_option maxRecDepth 20000 in
theorem gX0_kind_X0_needRoot : GoodIn wsX0_kind (va_wsS RX0 57 yX0_needRoot wsX0_needRoot) := goodIn_app (goodIn_of _ (by decide +kernel)) ggX0_kind_X0_needRoot
set_option maxRecDepth 20000 in
theorem ggX0_kind_X0_kindAt : GoodIn wsX0_kind wsX0_kindAt := goodIn_r _ [11, 12, 13, 14, 15, 16, 17, 18, 19, 20, 21, 22] (by decide +kernel) (by decide +kernel)
set_option maxRecDepth 20000 in
theorem gX0_kind_X0_kindAt : GoodIn wsX0_kind (wsV RX0 76 RX0 yX0_kindAt wsX0_kindAt) := goodIn_app (goodIn_of _ (by decide +kernel)) ggX0_kind_X0_kindAt
theorem dX0_kind_0 : decode cX0_kind 0 = .ok (.iload_n 1, 1) := by decide +kernel
theorem dX0_kind_1 : decode cX0_kind 1 = .ok (.invokestatic 57, 3) := by decide +kernel
theorem dX0_kind_4 : decode cX0_kind 4 = .ok (.aload_n 0, 1) := by decide +kernel
theorem dX0_kind_5 : decode cX0_kind 5 = .ok (.aload_n 0, 1) := by decide +kernel
theorem dX0_kind_6 : decode cX0_kind 6 = .ok (.getfield 30, 3) := by decide +kernel
theorem dX0_kind_9 : decode cX0_kind 9 = .ok (.iload_n 1, 1) := by decide +kernel
theorem dX0_kind_10 : decode cX0_kind 10 = .ok (.iaload, 1) := by decide +kernel
theorem dX0_kind_11 : decode cX0_kind 11 = .ok (.invokevirtual 76, 3) := by decide +kernel
theorem dX0_kind_14 : decode cX0_kind 14 = .ok (.ireturn, 1) := by decide +kernel
set_option maxRecDepth 20000 in
theorem ggX0_same_X0_needRoot : GoodIn wsX0_same wsX0_needRoot := goodIn_ca (goodIn_r _ [5, 6, 7] (by decide +kernel) (by decide +kernel)) (goodIn_sub (fun _ h => List.mem_cons_of_mem _ (List.mem_append_right _ h)) (by decide +kernel))
set_option maxRecDepth 20000 in
theorem gX0_same_X0_needRoot : GoodIn wsX0_same (va_wsS RX0 57 yX0_needRoot wsX0_needRoot) := goodIn_app (goodIn_of _ (by decide +kernel)) ggX0_same_X0_needRoot
theorem dX0_same_0 : decode cX0_same 0 = .ok (.iload_n 1, 1) := by decide +kernel
theorem dX0_same_1 : decode cX0_same 1 = .ok (.invokestatic 57, 3) := by decide +kernel
theorem dX0_same_4 : decode cX0_same 4 = .ok (.iload_n 2, 1) := by decide +kernel
theorem dX0_same_5 : decode cX0_same 5 = .ok (.invokestatic 57, 3) := by decide +kernel
theorem dX0_same_8 : decode cX0_same 8 = .ok (.aload_n 0, 1) := by decide +kernel
theorem dX0_same_9 : decode cX0_same 9 = .ok (.getfield 30, 3) := by decide +kernel
theorem dX0_same_12 : decode cX0_same 12 = .ok (.iload_n 1, 1) := by decide +kernel
theorem dX0_same_13 : decode cX0_same 13 = .ok (.iaload, 1) := by decide +kernel
theorem dX0_same_14 : decode cX0_same 14 = .ok (.aload_n 0, 1) := by decide +kernel
theorem dX0_same_15 : decode cX0_same 15 = .ok (.getfield 30, 3) := by decide +kernel
theorem dX0_same_18 : decode cX0_same 18 = .ok (.iload_n 2, 1) := by decide +kernel
theorem dX0_same_19 : decode cX0_same 19 = .ok (.iaload, 1) := by decide +kernel
theorem dX0_same_20 : decode cX0_same 20 = .ok (.if_icmp .ne 7, 3) := by decide +kernel
theorem dX0_same_23 : decode cX0_same 23 = .ok (.iconst 1, 1) := by decide +kernel
theorem dX0_same_24 : decode cX0_same 24 = .ok (.goto 4, 3) := by decide +kernel
theorem dX0_same_27 : decode cX0_same 27 = .ok (.iconst 0, 1) := by decide +kernel
theorem dX0_same_28 : decode cX0_same 28 = .ok (.ireturn, 1) := by decide +kernel
set_option maxRecDepth 20000 in
theorem ggX0_tie_X0_linkSlot : GoodIn wsX0_tie wsX0_linkSlot := goodIn_ca (goodIn_r _ [7, 8, 9, 10, 11, 12, 6, 13, 2, 14, 15, 16, 17, 18, 19, 20, 1, 21, 22, 23, 24, 25, 26, 27, 28, 29, 30, 31, 32, 33, 34] (by decide +kernel) (by decide +kernel)) (goodIn_sub (fun _ h => List.mem_cons_of_mem _ (List.mem_append_right _ h)) (by decide +kernel))
set_option maxRecDepth 20000 in
theorem gX0_tie_X0_linkSlot : GoodIn wsX0_tie (wsV RX0 80 RX0 yX0_linkSlot wsX0_linkSlot) := goodIn_app (goodIn_of _ (by decide +kernel)) ggX0_tie_X0_linkSlot
set_option maxRecDepth 20000 in
theorem ggX0_tie_X0_needRoot : GoodIn wsX0_tie wsX0_needRoot := goodIn_ca (goodIn_r _ [16, 8, 9] (by decide +kernel) (by decide +kernel)) (goodIn_sub (fun _ h => List.mem_cons_of_mem _ (List.mem_append_right _ h)) (by decide +kernel))
set_option maxRecDepth 20000 in
theorem gX0_tie_X0_needRoot : GoodIn wsX0_tie (va_wsS RX0 57 yX0_needRoot wsX0_needRoot) := goodIn_app (goodIn_of _ (by decide +kernel)) ggX0_tie_X0_needRoot
theorem dX0_tie_0 : decode cX0_tie 0 = .ok (.aload_n 0, 1) := by decide +kernel
theorem dX0_tie_1 : decode cX0_tie 1 = .ok (.iload_n 1, 1) := by decide +kernel
theorem dX0_tie_2 : decode cX0_tie 2 = .ok (.iload_n 2, 1) := by decide +kernel
theorem dX0_tie_3 : decode cX0_tie 3 = .ok (.invokevirtual 80, 3) := by decide +kernel
theorem dX0_tie_6 : decode cX0_tie 6 = .ok (.istore 4, 2) := by decide +kernel
theorem dX0_tie_8 : decode cX0_tie 8 = .ok (.iload_n 3, 1) := by decide +kernel
theorem dX0_tie_9 : decode cX0_tie 9 = .ok (.invokestatic 57, 3) := by decide +kernel
theorem dX0_tie_12 : decode cX0_tie 12 = .ok (.aload_n 0, 1) := by decide +kernel
theorem dX0_tie_13 : decode cX0_tie 13 = .ok (.getfield 23, 3) := by decide +kernel
theorem dX0_tie_16 : decode cX0_tie 16 = .ok (.iload 4, 2) := by decide +kernel
theorem dX0_tie_18 : decode cX0_tie 18 = .ok (.aload_n 0, 1) := by decide +kernel
theorem dX0_tie_19 : decode cX0_tie 19 = .ok (.getfield 30, 3) := by decide +kernel
theorem dX0_tie_22 : decode cX0_tie 22 = .ok (.iload_n 3, 1) := by decide +kernel
theorem dX0_tie_23 : decode cX0_tie 23 = .ok (.iaload, 1) := by decide +kernel
theorem dX0_tie_24 : decode cX0_tie 24 = .ok (.iastore, 1) := by decide +kernel
theorem dX0_tie_25 : decode cX0_tie 25 = .ok (.return_, 1) := by decide +kernel
set_option maxRecDepth 20000 in
theorem ggX0_lead_X0_linkSlot : GoodIn wsX0_lead wsX0_linkSlot := goodIn_ca (goodIn_r _ [7, 8, 9, 10, 11, 12, 6, 13, 1, 14, 15, 16, 17, 18, 19, 20, 2, 21, 22, 23, 24, 25, 26, 27, 28, 29, 30, 31, 32, 33, 34] (by decide +kernel) (by decide +kernel)) (goodIn_sub (fun _ h => List.mem_cons_of_mem _ (List.mem_append_right _ h)) (by decide +kernel))
set_option maxRecDepth 20000 in
theorem gX0_lead_X0_linkSlot : GoodIn wsX0_lead (wsV RX0 80 RX0 yX0_linkSlot wsX0_linkSlot) := goodIn_app (goodIn_of _ (by decide +kernel)) ggX0_lead_X0_linkSlot
set_option maxRecDepth 20000 in
theorem ggX0_lead_X0_needRoot : GoodIn wsX0_lead wsX0_needRoot := goodIn_ca (goodIn_r _ [16, 8, 9] (by decide +kernel) (by decide +kernel)) (goodIn_sub (fun _ h => List.mem_cons_of_mem _ (List.mem_append_right _ h)) (by decide +kernel))
set_option maxRecDepth 20000 in
theorem gX0_lead_X0_needRoot : GoodIn wsX0_lead (va_wsS RX0 57 yX0_needRoot wsX0_needRoot) := goodIn_app (goodIn_of _ (by decide +kernel)) ggX0_lead_X0_needRoot
theorem dX0_lead_0 : decode cX0_lead 0 = .ok (.aload_n 0, 1) := by decide +kernel
theorem dX0_lead_1 : decode cX0_lead 1 = .ok (.iload_n 1, 1) := by decide +kernel
theorem dX0_lead_2 : decode cX0_lead 2 = .ok (.iload_n 2, 1) := by decide +kernel
theorem dX0_lead_3 : decode cX0_lead 3 = .ok (.invokevirtual 80, 3) := by decide +kernel
theorem dX0_lead_6 : decode cX0_lead 6 = .ok (.istore 4, 2) := by decide +kernel
theorem dX0_lead_8 : decode cX0_lead 8 = .ok (.iload_n 3, 1) := by decide +kernel
theorem dX0_lead_9 : decode cX0_lead 9 = .ok (.invokestatic 57, 3) := by decide +kernel
theorem dX0_lead_12 : decode cX0_lead 12 = .ok (.aload_n 0, 1) := by decide +kernel
theorem dX0_lead_13 : decode cX0_lead 13 = .ok (.getfield 30, 3) := by decide +kernel
theorem dX0_lead_16 : decode cX0_lead 16 = .ok (.iload_n 3, 1) := by decide +kernel
theorem dX0_lead_17 : decode cX0_lead 17 = .ok (.aload_n 0, 1) := by decide +kernel
theorem dX0_lead_18 : decode cX0_lead 18 = .ok (.getfield 23, 3) := by decide +kernel
theorem dX0_lead_21 : decode cX0_lead 21 = .ok (.iload 4, 2) := by decide +kernel
theorem dX0_lead_23 : decode cX0_lead 23 = .ok (.iaload, 1) := by decide +kernel
theorem dX0_lead_24 : decode cX0_lead 24 = .ok (.iastore, 1) := by decide +kernel
theorem dX0_lead_25 : decode cX0_lead 25 = .ok (.return_, 1) := by decide +kernel
set_option maxRecDepth 20000 in
theorem ggX0_number_X0_valueSlot : GoodIn wsX0_number wsX0_valueSlot := goodIn_ca (goodIn_r _ [8, 1, 2, 9, 10, 11, 7, 12, 13, 14, 15, 16, 17, 18, 19, 20, 3, 21, 22, 23, 24, 25, 26, 27, 28, 33, 34, 35, 36, 37, 38, 39, 40, 41, 42] (by decide +kernel) (by decide +kernel)) (goodIn_sub (fun _ h => List.mem_cons_of_mem _ (List.mem_append_right _ h)) (by decide +kernel))
set_option maxRecDepth 20000 in
theorem gX0_number_X0_valueSlot : GoodIn wsX0_number (wsV RX0 83 RX0 yX0_valueSlot wsX0_valueSlot) := goodIn_app (goodIn_of _ (by decide +kernel)) ggX0_number_X0_valueSlot
set_option maxRecDepth 20000 in
theorem ggX0_number_X0_isReference : GoodIn wsX0_number wsX0_isReference := goodIn_r _ [31, 32] (by decide +kernel) (by decide +kernel)
set_option maxRecDepth 20000 in
theorem gX0_number_X0_isReference : GoodIn wsX0_number (va_wsS RX0 86 yX0_isReference wsX0_isReference) := goodIn_app (goodIn_of _ (by decide +kernel)) ggX0_number_X0_isReference
theorem dX0_number_0 : decode cX0_number 0 = .ok (.aload_n 0, 1) := by decide +kernel
theorem dX0_number_1 : decode cX0_number 1 = .ok (.iload_n 1, 1) := by decide +kernel
theorem dX0_number_2 : decode cX0_number 2 = .ok (.iload_n 2, 1) := by decide +kernel
theorem dX0_number_3 : decode cX0_number 3 = .ok (.invokevirtual 83, 3) := by decide +kernel
theorem dX0_number_6 : decode cX0_number 6 = .ok (.istore 5, 2) := by decide +kernel
theorem dX0_number_8 : decode cX0_number 8 = .ok (.lload_n 3, 1) := by decide +kernel
theorem dX0_number_9 : decode cX0_number 9 = .ok (.bipush 32, 2) := by decide +kernel
theorem dX0_number_11 : decode cX0_number 11 = .ok (.lushr, 1) := by decide +kernel
theorem dX0_number_12 : decode cX0_number 12 = .ok (.l2i, 1) := by decide +kernel
theorem dX0_number_13 : decode cX0_number 13 = .ok (.istore 6, 2) := by decide +kernel
theorem dX0_number_15 : decode cX0_number 15 = .ok (.iload 6, 2) := by decide +kernel
theorem dX0_number_17 : decode cX0_number 17 = .ok (.invokestatic 86, 3) := by decide +kernel
theorem dX0_number_20 : decode cX0_number 20 = .ok (.ifCond .eq 13, 3) := by decide +kernel
theorem dX0_number_23 : decode cX0_number 23 = .ok (.new 65, 3) := by decide +kernel
theorem dX0_number_26 : decode cX0_number 26 = .ok (.dup, 1) := by decide +kernel
theorem dX0_number_27 : decode cX0_number 27 = .ok (.ldc 90, 2) := by decide +kernel
theorem dX0_number_29 : decode cX0_number 29 = .ok (.invokespecial 69, 3) := by decide +kernel
theorem dX0_number_32 : decode cX0_number 32 = .ok (.athrow, 1) := by decide +kernel
theorem dX0_number_33 : decode cX0_number 33 = .ok (.aload_n 0, 1) := by decide +kernel
theorem dX0_number_34 : decode cX0_number 34 = .ok (.getfield 23, 3) := by decide +kernel
theorem dX0_number_37 : decode cX0_number 37 = .ok (.iload 5, 2) := by decide +kernel
theorem dX0_number_39 : decode cX0_number 39 = .ok (.iload 6, 2) := by decide +kernel
theorem dX0_number_41 : decode cX0_number 41 = .ok (.iastore, 1) := by decide +kernel
theorem dX0_number_42 : decode cX0_number 42 = .ok (.aload_n 0, 1) := by decide +kernel
theorem dX0_number_43 : decode cX0_number 43 = .ok (.getfield 23, 3) := by decide +kernel
theorem dX0_number_46 : decode cX0_number 46 = .ok (.iload 5, 2) := by decide +kernel
theorem dX0_number_48 : decode cX0_number 48 = .ok (.iconst 1, 1) := by decide +kernel
theorem dX0_number_49 : decode cX0_number 49 = .ok (.iadd, 1) := by decide +kernel
theorem dX0_number_50 : decode cX0_number 50 = .ok (.lload_n 3, 1) := by decide +kernel
theorem dX0_number_51 : decode cX0_number 51 = .ok (.l2i, 1) := by decide +kernel
theorem dX0_number_52 : decode cX0_number 52 = .ok (.iastore, 1) := by decide +kernel
theorem dX0_number_53 : decode cX0_number 53 = .ok (.return_, 1) := by decide +kernel
set_option maxRecDepth 20000 in
theorem ggX0_refer_X0_valueSlot : GoodIn wsX0_refer wsX0_valueSlot := goodIn_ca (goodIn_r _ [10, 1, 2, 11, 12, 13, 9, 14, 3, 15, 16, 17, 18, 19, 20, 21, 4, 22, 23, 24, 25, 26, 27, 28, 29, 30, 31, 32, 33, 34, 35, 36, 37, 38, 39] (by decide +kernel) (by decide +kernel)) (goodIn_sub (fun _ h => List.mem_cons_of_mem _ (List.mem_append_right _ h)) (by decide +kernel))
set_option maxRecDepth 20000 in
theorem gX0_refer_X0_valueSlot : GoodIn wsX0_refer (wsV RX0 83 RX0 yX0_valueSlot wsX0_valueSlot) := goodIn_app (goodIn_of _ (by decide +kernel)) ggX0_refer_X0_valueSlot
set_option maxRecDepth 20000 in
theorem ggX0_refer_X0_needRoot : GoodIn wsX0_refer wsX0_needRoot := goodIn_ca (goodIn_r _ [17, 1, 2] (by decide +kernel) (by decide +kernel)) (goodIn_sub (fun _ h => List.mem_cons_of_mem _ (List.mem_append_right _ h)) (by decide +kernel))
set_option maxRecDepth 20000 in
theorem gX0_refer_X0_needRoot : GoodIn wsX0_refer (va_wsS RX0 57 yX0_needRoot wsX0_needRoot) := goodIn_app (goodIn_of _ (by decide +kernel)) ggX0_refer_X0_needRoot
theorem dX0_refer_0 : decode cX0_refer 0 = .ok (.aload_n 0, 1) := by decide +kernel
theorem dX0_refer_1 : decode cX0_refer 1 = .ok (.iload_n 1, 1) := by decide +kernel
theorem dX0_refer_2 : decode cX0_refer 2 = .ok (.iload_n 2, 1) := by decide +kernel
theorem dX0_refer_3 : decode cX0_refer 3 = .ok (.invokevirtual 83, 3) := by decide +kernel
theorem dX0_refer_6 : decode cX0_refer 6 = .ok (.istore 4, 2) := by decide +kernel
theorem dX0_refer_8 : decode cX0_refer 8 = .ok (.iload_n 3, 1) := by decide +kernel
theorem dX0_refer_9 : decode cX0_refer 9 = .ok (.invokestatic 57, 3) := by decide +kernel
theorem dX0_refer_12 : decode cX0_refer 12 = .ok (.aload_n 0, 1) := by decide +kernel
theorem dX0_refer_13 : decode cX0_refer 13 = .ok (.getfield 30, 3) := by decide +kernel
theorem dX0_refer_16 : decode cX0_refer 16 = .ok (.iload_n 3, 1) := by decide +kernel
theorem dX0_refer_17 : decode cX0_refer 17 = .ok (.iaload, 1) := by decide +kernel
theorem dX0_refer_18 : decode cX0_refer 18 = .ok (.iconst (-1), 1) := by decide +kernel
theorem dX0_refer_19 : decode cX0_refer 19 = .ok (.if_icmp .ne 13, 3) := by decide +kernel
theorem dX0_refer_22 : decode cX0_refer 22 = .ok (.new 65, 3) := by decide +kernel
theorem dX0_refer_25 : decode cX0_refer 25 = .ok (.dup, 1) := by decide +kernel
theorem dX0_refer_26 : decode cX0_refer 26 = .ok (.ldc 92, 2) := by decide +kernel
theorem dX0_refer_28 : decode cX0_refer 28 = .ok (.invokespecial 69, 3) := by decide +kernel
theorem dX0_refer_31 : decode cX0_refer 31 = .ok (.athrow, 1) := by decide +kernel
theorem dX0_refer_32 : decode cX0_refer 32 = .ok (.aload_n 0, 1) := by decide +kernel
theorem dX0_refer_33 : decode cX0_refer 33 = .ok (.getfield 23, 3) := by decide +kernel
theorem dX0_refer_36 : decode cX0_refer 36 = .ok (.iload 4, 2) := by decide +kernel
theorem dX0_refer_38 : decode cX0_refer 38 = .ok (.ldc 94, 2) := by decide +kernel
theorem dX0_refer_40 : decode cX0_refer 40 = .ok (.iastore, 1) := by decide +kernel
theorem dX0_refer_41 : decode cX0_refer 41 = .ok (.aload_n 0, 1) := by decide +kernel
theorem dX0_refer_42 : decode cX0_refer 42 = .ok (.getfield 23, 3) := by decide +kernel
theorem dX0_refer_45 : decode cX0_refer 45 = .ok (.iload 4, 2) := by decide +kernel
theorem dX0_refer_47 : decode cX0_refer 47 = .ok (.iconst 1, 1) := by decide +kernel
theorem dX0_refer_48 : decode cX0_refer 48 = .ok (.iadd, 1) := by decide +kernel
theorem dX0_refer_49 : decode cX0_refer 49 = .ok (.aload_n 0, 1) := by decide +kernel
theorem dX0_refer_50 : decode cX0_refer 50 = .ok (.getfield 30, 3) := by decide +kernel
theorem dX0_refer_53 : decode cX0_refer 53 = .ok (.iload_n 3, 1) := by decide +kernel
theorem dX0_refer_54 : decode cX0_refer 54 = .ok (.iaload, 1) := by decide +kernel
theorem dX0_refer_55 : decode cX0_refer 55 = .ok (.iastore, 1) := by decide +kernel
theorem dX0_refer_56 : decode cX0_refer 56 = .ok (.return_, 1) := by decide +kernel
set_option maxRecDepth 20000 in
theorem ggX0_bits_X0_valueSlot : GoodIn wsX0_bits wsX0_valueSlot := goodIn_ca (goodIn_r _ [9, 1, 2, 10, 11, 12, 8, 13, 14, 15, 16, 17, 18, 19, 20, 21, 3, 22, 23, 24, 25, 26, 27, 28, 29, 34, 35, 36, 37, 38, 39, 40, 41, 42, 43] (by decide +kernel) (by decide +kernel)) (goodIn_sub (fun _ h => List.mem_cons_of_mem _ (List.mem_append_right _ h)) (by decide +kernel))
set_option maxRecDepth 20000 in
theorem gX0_bits_X0_valueSlot : GoodIn wsX0_bits (wsV RX0 83 RX0 yX0_valueSlot wsX0_valueSlot) := goodIn_app (goodIn_of _ (by decide +kernel)) ggX0_bits_X0_valueSlot
set_option maxRecDepth 20000 in
theorem ggX0_bits_X0_isReference : GoodIn wsX0_bits wsX0_isReference := goodIn_r _ [32, 33] (by decide +kernel) (by decide +kernel)
set_option maxRecDepth 20000 in
theorem gX0_bits_X0_isReference : GoodIn wsX0_bits (va_wsS RX0 86 yX0_isReference wsX0_isReference) := goodIn_app (goodIn_of _ (by decide +kernel)) ggX0_bits_X0_isReference
theorem dX0_bits_0 : decode cX0_bits 0 = .ok (.aload_n 0, 1) := by decide +kernel
theorem dX0_bits_1 : decode cX0_bits 1 = .ok (.iload_n 1, 1) := by decide +kernel
theorem dX0_bits_2 : decode cX0_bits 2 = .ok (.iload_n 2, 1) := by decide +kernel
theorem dX0_bits_3 : decode cX0_bits 3 = .ok (.invokevirtual 83, 3) := by decide +kernel
theorem dX0_bits_6 : decode cX0_bits 6 = .ok (.istore_n 3, 1) := by decide +kernel
theorem dX0_bits_7 : decode cX0_bits 7 = .ok (.aload_n 0, 1) := by decide +kernel
theorem dX0_bits_8 : decode cX0_bits 8 = .ok (.getfield 23, 3) := by decide +kernel
theorem dX0_bits_11 : decode cX0_bits 11 = .ok (.iload_n 3, 1) := by decide +kernel
theorem dX0_bits_12 : decode cX0_bits 12 = .ok (.iaload, 1) := by decide +kernel
theorem dX0_bits_13 : decode cX0_bits 13 = .ok (.invokestatic 86, 3) := by decide +kernel
theorem dX0_bits_16 : decode cX0_bits 16 = .ok (.ifCond .eq 13, 3) := by decide +kernel
theorem dX0_bits_19 : decode cX0_bits 19 = .ok (.new 65, 3) := by decide +kernel
theorem dX0_bits_22 : decode cX0_bits 22 = .ok (.dup, 1) := by decide +kernel
theorem dX0_bits_23 : decode cX0_bits 23 = .ok (.ldc 95, 2) := by decide +kernel
theorem dX0_bits_25 : decode cX0_bits 25 = .ok (.invokespecial 69, 3) := by decide +kernel
theorem dX0_bits_28 : decode cX0_bits 28 = .ok (.athrow, 1) := by decide +kernel
theorem dX0_bits_29 : decode cX0_bits 29 = .ok (.aload_n 0, 1) := by decide +kernel
theorem dX0_bits_30 : decode cX0_bits 30 = .ok (.getfield 23, 3) := by decide +kernel
theorem dX0_bits_33 : decode cX0_bits 33 = .ok (.iload_n 3, 1) := by decide +kernel
theorem dX0_bits_34 : decode cX0_bits 34 = .ok (.iaload, 1) := by decide +kernel
theorem dX0_bits_35 : decode cX0_bits 35 = .ok (.i2l, 1) := by decide +kernel
theorem dX0_bits_36 : decode cX0_bits 36 = .ok (.bipush 32, 2) := by decide +kernel
theorem dX0_bits_38 : decode cX0_bits 38 = .ok (.lshl, 1) := by decide +kernel
theorem dX0_bits_39 : decode cX0_bits 39 = .ok (.aload_n 0, 1) := by decide +kernel
theorem dX0_bits_40 : decode cX0_bits 40 = .ok (.getfield 23, 3) := by decide +kernel
theorem dX0_bits_43 : decode cX0_bits 43 = .ok (.iload_n 3, 1) := by decide +kernel
theorem dX0_bits_44 : decode cX0_bits 44 = .ok (.iconst 1, 1) := by decide +kernel
theorem dX0_bits_45 : decode cX0_bits 45 = .ok (.iadd, 1) := by decide +kernel
theorem dX0_bits_46 : decode cX0_bits 46 = .ok (.iaload, 1) := by decide +kernel
theorem dX0_bits_47 : decode cX0_bits 47 = .ok (.i2l, 1) := by decide +kernel
theorem dX0_bits_48 : decode cX0_bits 48 = .ok (.ldc2_w 97, 3) := by decide +kernel
theorem dX0_bits_51 : decode cX0_bits 51 = .ok (.land, 1) := by decide +kernel
theorem dX0_bits_52 : decode cX0_bits 52 = .ok (.lor, 1) := by decide +kernel
theorem dX0_bits_53 : decode cX0_bits 53 = .ok (.lreturn, 1) := by decide +kernel
set_option maxRecDepth 20000 in
theorem ggX0_follow_X0_valueSlot : GoodIn wsX0_follow wsX0_valueSlot := goodIn_ca (goodIn_r _ [7, 8, 9, 10, 11, 12, 6, 13, 2, 14, 15, 16, 17, 18, 19, 20, 1, 21, 22, 23, 24, 25, 26, 27, 28, 33, 34, 35, 36, 37, 38, 39, 40, 41, 42] (by decide +kernel) (by decide +kernel)) (goodIn_sub (fun _ h => List.mem_cons_of_mem _ (List.mem_append_right _ h)) (by decide +kernel))
set_option maxRecDepth 20000 in
theorem gX0_follow_X0_valueSlot : GoodIn wsX0_follow (wsV RX0 83 RX0 yX0_valueSlot wsX0_valueSlot) := goodIn_app (goodIn_of _ (by decide +kernel)) ggX0_follow_X0_valueSlot
set_option maxRecDepth 20000 in
theorem ggX0_follow_X0_needRoot : GoodIn wsX0_follow wsX0_needRoot := goodIn_ca (goodIn_r _ [16, 8, 9] (by decide +kernel) (by decide +kernel)) (goodIn_sub (fun _ h => List.mem_cons_of_mem _ (List.mem_append_right _ h)) (by decide +kernel))
set_option maxRecDepth 20000 in
theorem gX0_follow_X0_needRoot : GoodIn wsX0_follow (va_wsS RX0 57 yX0_needRoot wsX0_needRoot) := goodIn_app (goodIn_of _ (by decide +kernel)) ggX0_follow_X0_needRoot
set_option maxRecDepth 20000 in
theorem ggX0_follow_X0_isReference : GoodIn wsX0_follow wsX0_isReference := goodIn_r _ [31, 32] (by decide +kernel) (by decide +kernel)
set_option maxRecDepth 20000 in
theorem gX0_follow_X0_isReference : GoodIn wsX0_follow (va_wsS RX0 86 yX0_isReference wsX0_isReference) := goodIn_app (goodIn_of _ (by decide +kernel)) ggX0_follow_X0_isReference
theorem dX0_follow_0 : decode cX0_follow 0 = .ok (.aload_n 0, 1) := by decide +kernel
theorem dX0_follow_1 : decode cX0_follow 1 = .ok (.iload_n 1, 1) := by decide +kernel
theorem dX0_follow_2 : decode cX0_follow 2 = .ok (.iload_n 2, 1) := by decide +kernel
theorem dX0_follow_3 : decode cX0_follow 3 = .ok (.invokevirtual 83, 3) := by decide +kernel
theorem dX0_follow_6 : decode cX0_follow 6 = .ok (.istore 4, 2) := by decide +kernel
theorem dX0_follow_8 : decode cX0_follow 8 = .ok (.iload_n 3, 1) := by decide +kernel
theorem dX0_follow_9 : decode cX0_follow 9 = .ok (.invokestatic 57, 3) := by decide +kernel
theorem dX0_follow_12 : decode cX0_follow 12 = .ok (.aload_n 0, 1) := by decide +kernel
theorem dX0_follow_13 : decode cX0_follow 13 = .ok (.getfield 23, 3) := by decide +kernel
theorem dX0_follow_16 : decode cX0_follow 16 = .ok (.iload 4, 2) := by decide +kernel
theorem dX0_follow_18 : decode cX0_follow 18 = .ok (.iaload, 1) := by decide +kernel
theorem dX0_follow_19 : decode cX0_follow 19 = .ok (.invokestatic 86, 3) := by decide +kernel
theorem dX0_follow_22 : decode cX0_follow 22 = .ok (.ifCond .ne 5, 3) := by decide +kernel
theorem dX0_follow_25 : decode cX0_follow 25 = .ok (.iconst 0, 1) := by decide +kernel
theorem dX0_follow_26 : decode cX0_follow 26 = .ok (.ireturn, 1) := by decide +kernel
theorem dX0_follow_27 : decode cX0_follow 27 = .ok (.aload_n 0, 1) := by decide +kernel
theorem dX0_follow_28 : decode cX0_follow 28 = .ok (.getfield 30, 3) := by decide +kernel
theorem dX0_follow_31 : decode cX0_follow 31 = .ok (.iload_n 3, 1) := by decide +kernel
theorem dX0_follow_32 : decode cX0_follow 32 = .ok (.aload_n 0, 1) := by decide +kernel
theorem dX0_follow_33 : decode cX0_follow 33 = .ok (.getfield 23, 3) := by decide +kernel
theorem dX0_follow_36 : decode cX0_follow 36 = .ok (.iload 4, 2) := by decide +kernel
theorem dX0_follow_38 : decode cX0_follow 38 = .ok (.iconst 1, 1) := by decide +kernel
theorem dX0_follow_39 : decode cX0_follow 39 = .ok (.iadd, 1) := by decide +kernel
theorem dX0_follow_40 : decode cX0_follow 40 = .ok (.iaload, 1) := by decide +kernel
theorem dX0_follow_41 : decode cX0_follow 41 = .ok (.iastore, 1) := by decide +kernel
theorem dX0_follow_42 : decode cX0_follow 42 = .ok (.iconst 1, 1) := by decide +kernel
theorem dX0_follow_43 : decode cX0_follow 43 = .ok (.ireturn, 1) := by decide +kernel
set_option maxRecDepth 20000 in
theorem ggX0_set_X0_plainSlot : GoodIn wsX0_set wsX0_plainSlot := goodIn_ca (goodIn_r _ [6, 7, 8, 9, 10, 11, 5, 12, 13, 14, 15, 16, 17, 18, 19, 20, 1, 21, 22, 23, 24, 25, 26, 27, 28, 29, 30, 31, 32, 33, 34, 35, 36, 37, 38, 39, 40, 41, 42] (by decide +kernel) (by decide +kernel)) (goodIn_sub (fun _ h => List.mem_cons_of_mem _ (List.mem_append_right _ h)) (by decide +kernel))
set_option maxRecDepth 20000 in
theorem gX0_set_X0_plainSlot : GoodIn wsX0_set (wsV RX0 99 RX0 yX0_plainSlot wsX0_plainSlot) := goodIn_app (goodIn_of _ (by decide +kernel)) ggX0_set_X0_plainSlot
theorem dX0_set_0 : decode cX0_set 0 = .ok (.aload_n 0, 1) := by decide +kernel
theorem dX0_set_1 : decode cX0_set 1 = .ok (.getfield 23, 3) := by decide +kernel
theorem dX0_set_4 : decode cX0_set 4 = .ok (.aload_n 0, 1) := by decide +kernel
theorem dX0_set_5 : decode cX0_set 5 = .ok (.iload_n 1, 1) := by decide +kernel
theorem dX0_set_6 : decode cX0_set 6 = .ok (.iload_n 2, 1) := by decide +kernel
theorem dX0_set_7 : decode cX0_set 7 = .ok (.invokevirtual 99, 3) := by decide +kernel
theorem dX0_set_10 : decode cX0_set 10 = .ok (.iload_n 3, 1) := by decide +kernel
theorem dX0_set_11 : decode cX0_set 11 = .ok (.iastore, 1) := by decide +kernel
theorem dX0_set_12 : decode cX0_set 12 = .ok (.return_, 1) := by decide +kernel
set_option maxRecDepth 20000 in
theorem ggX0_get_X0_plainSlot : GoodIn wsX0_get wsX0_plainSlot := goodIn_ca (goodIn_r _ [6, 7, 8, 9, 10, 11, 5, 12, 13, 14, 15, 16, 17, 18, 19, 20, 1, 21, 22, 23, 24, 25, 26, 27, 28, 29, 30, 31, 32, 33, 34, 35, 36, 37, 38, 39, 40, 41, 42] (by decide +kernel) (by decide +kernel)) (goodIn_sub (fun _ h => List.mem_cons_of_mem _ (List.mem_append_right _ h)) (by decide +kernel))
set_option maxRecDepth 20000 in
theorem gX0_get_X0_plainSlot : GoodIn wsX0_get (wsV RX0 99 RX0 yX0_plainSlot wsX0_plainSlot) := goodIn_app (goodIn_of _ (by decide +kernel)) ggX0_get_X0_plainSlot
theorem dX0_get_0 : decode cX0_get 0 = .ok (.aload_n 0, 1) := by decide +kernel
theorem dX0_get_1 : decode cX0_get 1 = .ok (.getfield 23, 3) := by decide +kernel
theorem dX0_get_4 : decode cX0_get 4 = .ok (.aload_n 0, 1) := by decide +kernel
theorem dX0_get_5 : decode cX0_get 5 = .ok (.iload_n 1, 1) := by decide +kernel
theorem dX0_get_6 : decode cX0_get 6 = .ok (.iload_n 2, 1) := by decide +kernel
theorem dX0_get_7 : decode cX0_get 7 = .ok (.invokevirtual 99, 3) := by decide +kernel
theorem dX0_get_10 : decode cX0_get 10 = .ok (.iaload, 1) := by decide +kernel
theorem dX0_get_11 : decode cX0_get 11 = .ok (.ireturn, 1) := by decide +kernel
set_option maxRecDepth 20000 in
theorem ggX0_text_X0_needRoot : GoodIn wsX0_text wsX0_needRoot := goodIn_ca (goodIn_r _ [8, 1, 2] (by decide +kernel) (by decide +kernel)) (goodIn_sub (fun _ h => List.mem_cons_of_mem _ (List.mem_append_left _ (List.mem_append_right _ h))) (by decide +kernel))
set_option maxRecDepth 20000 in
theorem gX0_text_X0_needRoot : GoodIn wsX0_text (va_wsS RX0 57 yX0_needRoot wsX0_needRoot) := goodIn_app (goodIn_of _ (by decide +kernel)) ggX0_text_X0_needRoot
set_option maxRecDepth 20000 in
theorem ggX0_text_X0_isUpTo : GoodIn wsX0_text wsX0_isUpTo := goodIn_r _ [11] (by decide +kernel) (by decide +kernel)
set_option maxRecDepth 20000 in
theorem gX0_text_X0_isUpTo : GoodIn wsX0_text (va_wsS RX0 61 yX0_isUpTo wsX0_isUpTo) := goodIn_app (goodIn_of _ (by decide +kernel)) ggX0_text_X0_isUpTo
set_option maxRecDepth 20000 in
theorem ggX0_text_X0_makeFlat : GoodIn wsX0_text wsX0_makeFlat := goodIn_ca (goodIn_r _ [15, 16, 17, 18, 7, 19, 20, 21, 22, 23, 24, 25, 26, 27, 28, 29, 30, 31, 32, 33, 34, 35, 36, 37, 38, 39, 4, 40, 41, 42, 43, 44, 45, 46, 47, 48, 49, 50, 51, 52, 53, 54, 55, 56, 57, 58, 59, 60, 61, 62, 63, 64, 65, 66, 67, 68, 69, 70, 71, 72, 73, 74, 75, 76, 77, 78, 79, 80, 81, 82, 83, 84, 85, 86, 87, 88, 89, 90, 91, 92, 93, 94, 95, 96, 97, 98, 99, 100, 101, 102, 103, 104, 105, 106, 107, 108, 109, 110, 111, 112, 113, 114, 115, 116, 117, 118, 123, 124, 125, 126, 127, 128, 129, 130, 131, 132, 133, 134, 135, 136] (by decide +kernel) (by decide +kernel)) (goodIn_sub (fun _ h => List.mem_cons_of_mem _ (List.mem_append_right _ h)) (by decide +kernel))
set_option maxRecDepth 20000 in
theorem gX0_text_X0_makeFlat : GoodIn wsX0_text (wsV RX0 104 RX0 yX0_makeFlat wsX0_makeFlat) := goodIn_app (goodIn_of _ (by decide +kernel)) ggX0_text_X0_makeFlat
set_option maxRecDepth 20000 in
theorem ggX0_text_X0_putUnit : GoodIn wsX0_text wsX0_putUnit := goodIn_r _ [122, 22, 123, 124, 125, 126, 127, 128, 129, 130, 131, 132] (by decide +kernel) (by decide +kernel)
set_option maxRecDepth 20000 in
theorem gX0_text_X0_putUnit : GoodIn wsX0_text (wsV RX0 108 RX0 yX0_putUnit wsX0_putUnit) := goodIn_app (goodIn_of _ (by decide +kernel)) ggX0_text_X0_putUnit
theorem dX0_text_0 : decode cX0_text 0 = .ok (.iload_n 1, 1) := by decide +kernel
theorem dX0_text_1 : decode cX0_text 1 = .ok (.invokestatic 57, 3) := by decide +kernel
theorem dX0_text_4 : decode cX0_text 4 = .ok (.iload 4, 2) := by decide +kernel
theorem dX0_text_6 : decode cX0_text 6 = .ok (.iconst 4, 1) := by decide +kernel
theorem dX0_text_7 : decode cX0_text 7 = .ok (.invokestatic 61, 3) := by decide +kernel
theorem dX0_text_10 : decode cX0_text 10 = .ok (.ifCond .ne 13, 3) := by decide +kernel
theorem dX0_text_13 : decode cX0_text 13 = .ok (.new 65, 3) := by decide +kernel
theorem dX0_text_16 : decode cX0_text 16 = .ok (.dup, 1) := by decide +kernel
theorem dX0_text_17 : decode cX0_text 17 = .ok (.ldc 102, 2) := by decide +kernel
theorem dX0_text_19 : decode cX0_text 19 = .ok (.invokespecial 69, 3) := by decide +kernel
theorem dX0_text_22 : decode cX0_text 22 = .ok (.athrow, 1) := by decide +kernel
theorem dX0_text_23 : decode cX0_text 23 = .ok (.aload_n 0, 1) := by decide +kernel
theorem dX0_text_24 : decode cX0_text 24 = .ok (.iconst 2, 1) := by decide +kernel
theorem dX0_text_25 : decode cX0_text 25 = .ok (.iload 4, 2) := by decide +kernel
theorem dX0_text_27 : decode cX0_text 27 = .ok (.invokevirtual 104, 3) := by decide +kernel
theorem dX0_text_30 : decode cX0_text 30 = .ok (.istore 5, 2) := by decide +kernel
theorem dX0_text_32 : decode cX0_text 32 = .ok (.iconst 0, 1) := by decide +kernel
theorem dX0_text_33 : decode cX0_text 33 = .ok (.istore 6, 2) := by decide +kernel
theorem dX0_text_35 : decode cX0_text 35 = .ok (.iload 6, 2) := by decide +kernel
theorem dX0_text_37 : decode cX0_text 37 = .ok (.iload 4, 2) := by decide +kernel
theorem dX0_text_39 : decode cX0_text 39 = .ok (.if_icmp .ge 37, 3) := by decide +kernel
theorem dX0_text_42 : decode cX0_text 42 = .ok (.iload 4, 2) := by decide +kernel
theorem dX0_text_44 : decode cX0_text 44 = .ok (.iconst 1, 1) := by decide +kernel
theorem dX0_text_45 : decode cX0_text 45 = .ok (.isub, 1) := by decide +kernel
theorem dX0_text_46 : decode cX0_text 46 = .ok (.iload 6, 2) := by decide +kernel
theorem dX0_text_48 : decode cX0_text 48 = .ok (.isub, 1) := by decide +kernel
theorem dX0_text_49 : decode cX0_text 49 = .ok (.istore 7, 2) := by decide +kernel
theorem dX0_text_51 : decode cX0_text 51 = .ok (.aload_n 0, 1) := by decide +kernel
theorem dX0_text_52 : decode cX0_text 52 = .ok (.iload 5, 2) := by decide +kernel
theorem dX0_text_54 : decode cX0_text 54 = .ok (.iload 6, 2) := by decide +kernel
theorem dX0_text_56 : decode cX0_text 56 = .ok (.lload_n 2, 1) := by decide +kernel
theorem dX0_text_57 : decode cX0_text 57 = .ok (.bipush 16, 2) := by decide +kernel
theorem dX0_text_59 : decode cX0_text 59 = .ok (.iload 7, 2) := by decide +kernel
theorem dX0_text_61 : decode cX0_text 61 = .ok (.imul, 1) := by decide +kernel
theorem dX0_text_62 : decode cX0_text 62 = .ok (.lushr, 1) := by decide +kernel
theorem dX0_text_63 : decode cX0_text 63 = .ok (.l2i, 1) := by decide +kernel
theorem dX0_text_64 : decode cX0_text 64 = .ok (.ldc 107, 2) := by decide +kernel
theorem dX0_text_66 : decode cX0_text 66 = .ok (.iand, 1) := by decide +kernel
theorem dX0_text_67 : decode cX0_text 67 = .ok (.invokevirtual 108, 3) := by decide +kernel
theorem dX0_text_70 : decode cX0_text 70 = .ok (.iinc 6 1, 3) := by decide +kernel
theorem dX0_text_73 : decode cX0_text 73 = .ok (.goto (-38), 3) := by decide +kernel
theorem dX0_text_76 : decode cX0_text 76 = .ok (.aload_n 0, 1) := by decide +kernel
theorem dX0_text_77 : decode cX0_text 77 = .ok (.getfield 30, 3) := by decide +kernel
theorem dX0_text_80 : decode cX0_text 80 = .ok (.iload_n 1, 1) := by decide +kernel
theorem dX0_text_81 : decode cX0_text 81 = .ok (.iload 5, 2) := by decide +kernel
theorem dX0_text_83 : decode cX0_text 83 = .ok (.iastore, 1) := by decide +kernel
theorem dX0_text_84 : decode cX0_text 84 = .ok (.return_, 1) := by decide +kernel
set_option maxRecDepth 20000 in
theorem ggX0_join_X0_needRoot : GoodIn wsX0_join wsX0_needRoot := goodIn_ca (goodIn_r _ [7, 8, 9] (by decide +kernel) (by decide +kernel)) (goodIn_sub (fun _ h => List.mem_cons_of_mem _ (List.mem_append_right _ h)) (by decide +kernel))
set_option maxRecDepth 20000 in
theorem gX0_join_X0_needRoot : GoodIn wsX0_join (va_wsS RX0 57 yX0_needRoot wsX0_needRoot) := goodIn_app (goodIn_of _ (by decide +kernel)) ggX0_join_X0_needRoot
set_option maxRecDepth 20000 in
theorem ggX0_join_X0_needText : GoodIn wsX0_join wsX0_needText := goodIn_ca (goodIn_r _ [13, 8, 9, 3, 4, 5, 6, 7, 14, 15, 16, 17, 18, 152, 153, 154, 155, 156, 157, 158, 159, 160, 161] (by decide +kernel) (by decide +kernel)) (goodIn_sub (fun _ h => List.mem_cons_of_mem _ (List.mem_append_right _ h)) (by decide +kernel))
set_option maxRecDepth 20000 in
theorem gX0_join_X0_needText : GoodIn wsX0_join (wsV RX0 112 RX0 yX0_needText wsX0_needText) := goodIn_app (goodIn_of _ (by decide +kernel)) ggX0_join_X0_needText
set_option maxRecDepth 20000 in
theorem ggX0_join_X0_lengthIn : GoodIn wsX0_join wsX0_lengthIn := goodIn_r _ [22, 3, 23, 24, 25, 6, 26, 18, 27, 28, 29, 30, 152, 153, 154, 155, 156, 157, 158, 159, 160, 161] (by decide +kernel) (by decide +kernel)
set_option maxRecDepth 20000 in
theorem gX0_join_X0_lengthIn : GoodIn wsX0_join (wsV RX0 115 RX0 yX0_lengthIn wsX0_lengthIn) := goodIn_app (goodIn_of _ (by decide +kernel)) ggX0_join_X0_lengthIn
set_option maxRecDepth 20000 in
theorem ggX0_join_X0_makeFlatOfTwo : GoodIn wsX0_join wsX0_makeFlatOfTwo := goodIn_ca (goodIn_r _ [34, 3, 19, 20, 21, 6, 22, 23, 24, 25, 26, 18, 27, 28, 29, 30, 35, 36, 37, 38, 39, 40, 41, 42, 1, 2, 43, 44, 45, 46, 47, 48, 49, 50, 51, 52, 53, 54, 55, 56, 57, 58, 59, 60, 61, 62, 63, 64, 65, 66, 67, 68, 69, 70, 71, 72, 73, 74, 75, 76, 77, 78, 79, 80, 81, 82, 83, 84, 85, 86, 87, 88, 89, 90, 91, 92, 93, 94, 95, 96, 97, 98, 99, 100, 101, 102, 103, 104, 105, 106, 107, 108, 109, 110, 111, 112, 113, 114, 115, 116, 117, 118, 119, 120, 121, 122, 123, 124, 125, 126, 127, 128, 129, 130, 131, 132, 133, 134, 135, 136, 137, 138, 139, 140, 141, 142, 143, 144, 145, 146, 147, 152, 153, 154, 155, 156, 157, 158, 159, 160, 161, 162, 163, 164, 165] (by decide +kernel) (by decide +kernel)) (goodIn_sub (fun _ h => List.mem_cons_of_mem _ (List.mem_append_left _ (List.mem_append_right _ h))) (by decide +kernel))
set_option maxRecDepth 20000 in
theorem gX0_join_X0_makeFlatOfTwo : GoodIn wsX0_join (wsV RX0 123 RX0 yX0_makeFlatOfTwo wsX0_makeFlatOfTwo) := goodIn_app (goodIn_of _ (by decide +kernel)) ggX0_join_X0_makeFlatOfTwo
set_option maxRecDepth 20000 in
theorem ggX0_join_X0_makeJoined : GoodIn wsX0_join wsX0_makeJoined := goodIn_ca (goodIn_r _ [151, 18, 3, 39, 40, 41, 6, 42, 1, 2, 43, 44, 45, 46, 47, 48, 49, 50, 51, 52, 53, 54, 55, 56, 57, 58, 59, 60, 61, 62, 63, 64, 65, 66, 67, 27, 28, 29, 30, 68, 69, 70, 71, 72, 73, 74, 75, 76, 77, 78, 79, 80, 81, 82, 83, 84, 85, 86, 87, 88, 89, 90, 91, 92, 93, 94, 95, 96, 97, 98, 99, 100, 101, 102, 103, 104, 105, 106, 107, 108, 109, 110, 111, 112, 113, 114, 115, 116, 117, 118, 119, 120, 121, 122, 123, 124, 125, 126, 127, 128, 129, 130, 19, 20, 21, 22, 23, 24, 25, 26, 131, 132, 133, 134, 152, 153, 154, 155, 156, 157, 158, 159, 160, 161, 162, 163, 164, 165] (by decide +kernel) (by decide +kernel)) (goodIn_sub (fun _ h => List.mem_cons_of_mem _ (List.mem_append_left _ (List.mem_append_right _ h))) (by decide +kernel))
set_option maxRecDepth 20000 in
theorem gX0_join_X0_makeJoined : GoodIn wsX0_join (wsV RX0 126 RX0 yX0_makeJoined wsX0_makeJoined) := goodIn_app (goodIn_of _ (by decide +kernel)) ggX0_join_X0_makeJoined
theorem dX0_join_0 : decode cX0_join 0 = .ok (.iload_n 1, 1) := by decide +kernel
theorem dX0_join_1 : decode cX0_join 1 = .ok (.invokestatic 57, 3) := by decide +kernel
theorem dX0_join_4 : decode cX0_join 4 = .ok (.aload_n 0, 1) := by decide +kernel
theorem dX0_join_5 : decode cX0_join 5 = .ok (.iload_n 2, 1) := by decide +kernel
theorem dX0_join_6 : decode cX0_join 6 = .ok (.invokevirtual 112, 3) := by decide +kernel
theorem dX0_join_9 : decode cX0_join 9 = .ok (.aload_n 0, 1) := by decide +kernel
theorem dX0_join_10 : decode cX0_join 10 = .ok (.iload_n 3, 1) := by decide +kernel
theorem dX0_join_11 : decode cX0_join 11 = .ok (.invokevirtual 112, 3) := by decide +kernel
theorem dX0_join_14 : decode cX0_join 14 = .ok (.aload_n 0, 1) := by decide +kernel
theorem dX0_join_15 : decode cX0_join 15 = .ok (.iload_n 2, 1) := by decide +kernel
theorem dX0_join_16 : decode cX0_join 16 = .ok (.invokevirtual 115, 3) := by decide +kernel
theorem dX0_join_19 : decode cX0_join 19 = .ok (.istore 4, 2) := by decide +kernel
theorem dX0_join_21 : decode cX0_join 21 = .ok (.aload_n 0, 1) := by decide +kernel
theorem dX0_join_22 : decode cX0_join 22 = .ok (.iload_n 3, 1) := by decide +kernel
theorem dX0_join_23 : decode cX0_join 23 = .ok (.invokevirtual 115, 3) := by decide +kernel
theorem dX0_join_26 : decode cX0_join 26 = .ok (.istore 5, 2) := by decide +kernel
theorem dX0_join_28 : decode cX0_join 28 = .ok (.iload 4, 2) := by decide +kernel
theorem dX0_join_30 : decode cX0_join 30 = .ok (.iload 5, 2) := by decide +kernel
theorem dX0_join_32 : decode cX0_join 32 = .ok (.iadd, 1) := by decide +kernel
theorem dX0_join_33 : decode cX0_join 33 = .ok (.sipush 4000, 3) := by decide +kernel
theorem dX0_join_36 : decode cX0_join 36 = .ok (.if_icmp .le 13, 3) := by decide +kernel
theorem dX0_join_39 : decode cX0_join 39 = .ok (.new 118, 3) := by decide +kernel
theorem dX0_join_42 : decode cX0_join 42 = .ok (.dup, 1) := by decide +kernel
theorem dX0_join_43 : decode cX0_join 43 = .ok (.ldc 120, 2) := by decide +kernel
theorem dX0_join_45 : decode cX0_join 45 = .ok (.invokespecial 122, 3) := by decide +kernel
theorem dX0_join_48 : decode cX0_join 48 = .ok (.athrow, 1) := by decide +kernel
theorem dX0_join_49 : decode cX0_join 49 = .ok (.iload 4, 2) := by decide +kernel
theorem dX0_join_51 : decode cX0_join 51 = .ok (.ifCond .ne 18, 3) := by decide +kernel
theorem dX0_join_54 : decode cX0_join 54 = .ok (.aload_n 0, 1) := by decide +kernel
theorem dX0_join_55 : decode cX0_join 55 = .ok (.getfield 30, 3) := by decide +kernel
theorem dX0_join_58 : decode cX0_join 58 = .ok (.iload_n 1, 1) := by decide +kernel
theorem dX0_join_59 : decode cX0_join 59 = .ok (.aload_n 0, 1) := by decide +kernel
theorem dX0_join_60 : decode cX0_join 60 = .ok (.getfield 30, 3) := by decide +kernel
theorem dX0_join_63 : decode cX0_join 63 = .ok (.iload_n 3, 1) := by decide +kernel
theorem dX0_join_64 : decode cX0_join 64 = .ok (.iaload, 1) := by decide +kernel
theorem dX0_join_65 : decode cX0_join 65 = .ok (.iastore, 1) := by decide +kernel
theorem dX0_join_66 : decode cX0_join 66 = .ok (.goto 60, 3) := by decide +kernel
theorem dX0_join_69 : decode cX0_join 69 = .ok (.iload 5, 2) := by decide +kernel
theorem dX0_join_71 : decode cX0_join 71 = .ok (.ifCond .ne 18, 3) := by decide +kernel
theorem dX0_join_74 : decode cX0_join 74 = .ok (.aload_n 0, 1) := by decide +kernel
theorem dX0_join_75 : decode cX0_join 75 = .ok (.getfield 30, 3) := by decide +kernel
theorem dX0_join_78 : decode cX0_join 78 = .ok (.iload_n 1, 1) := by decide +kernel
theorem dX0_join_79 : decode cX0_join 79 = .ok (.aload_n 0, 1) := by decide +kernel
theorem dX0_join_80 : decode cX0_join 80 = .ok (.getfield 30, 3) := by decide +kernel
theorem dX0_join_83 : decode cX0_join 83 = .ok (.iload_n 2, 1) := by decide +kernel
theorem dX0_join_84 : decode cX0_join 84 = .ok (.iaload, 1) := by decide +kernel
theorem dX0_join_85 : decode cX0_join 85 = .ok (.iastore, 1) := by decide +kernel
theorem dX0_join_86 : decode cX0_join 86 = .ok (.goto 40, 3) := by decide +kernel
theorem dX0_join_89 : decode cX0_join 89 = .ok (.iload 4, 2) := by decide +kernel
theorem dX0_join_91 : decode cX0_join 91 = .ok (.iload 5, 2) := by decide +kernel
theorem dX0_join_93 : decode cX0_join 93 = .ok (.iadd, 1) := by decide +kernel
theorem dX0_join_94 : decode cX0_join 94 = .ok (.bipush 24, 2) := by decide +kernel
theorem dX0_join_96 : decode cX0_join 96 = .ok (.if_icmp .gt 18, 3) := by decide +kernel
theorem dX0_join_99 : decode cX0_join 99 = .ok (.aload_n 0, 1) := by decide +kernel
theorem dX0_join_100 : decode cX0_join 100 = .ok (.getfield 30, 3) := by decide +kernel
theorem dX0_join_103 : decode cX0_join 103 = .ok (.iload_n 1, 1) := by decide +kernel
theorem dX0_join_104 : decode cX0_join 104 = .ok (.aload_n 0, 1) := by decide +kernel
theorem dX0_join_105 : decode cX0_join 105 = .ok (.iload_n 2, 1) := by decide +kernel
theorem dX0_join_106 : decode cX0_join 106 = .ok (.iload_n 3, 1) := by decide +kernel
theorem dX0_join_107 : decode cX0_join 107 = .ok (.invokevirtual 123, 3) := by decide +kernel
theorem dX0_join_110 : decode cX0_join 110 = .ok (.iastore, 1) := by decide +kernel
theorem dX0_join_111 : decode cX0_join 111 = .ok (.goto 15, 3) := by decide +kernel
theorem dX0_join_114 : decode cX0_join 114 = .ok (.aload_n 0, 1) := by decide +kernel
theorem dX0_join_115 : decode cX0_join 115 = .ok (.getfield 30, 3) := by decide +kernel
theorem dX0_join_118 : decode cX0_join 118 = .ok (.iload_n 1, 1) := by decide +kernel
theorem dX0_join_119 : decode cX0_join 119 = .ok (.aload_n 0, 1) := by decide +kernel
theorem dX0_join_120 : decode cX0_join 120 = .ok (.iload_n 2, 1) := by decide +kernel
theorem dX0_join_121 : decode cX0_join 121 = .ok (.iload_n 3, 1) := by decide +kernel
theorem dX0_join_122 : decode cX0_join 122 = .ok (.invokevirtual 126, 3) := by decide +kernel
theorem dX0_join_125 : decode cX0_join 125 = .ok (.iastore, 1) := by decide +kernel
theorem dX0_join_126 : decode cX0_join 126 = .ok (.return_, 1) := by decide +kernel
set_option maxRecDepth 20000 in
theorem ggX0_part_X0_needRoot : GoodIn wsX0_part wsX0_needRoot := goodIn_ca (goodIn_r _ [7, 1, 2] (by decide +kernel) (by decide +kernel)) (goodIn_sub (fun _ h => List.mem_cons_of_mem _ (List.mem_append_left _ (List.mem_append_right _ h))) (by decide +kernel))
set_option maxRecDepth 20000 in
theorem gX0_part_X0_needRoot : GoodIn wsX0_part (va_wsS RX0 57 yX0_needRoot wsX0_needRoot) := goodIn_app (goodIn_of _ (by decide +kernel)) ggX0_part_X0_needRoot
set_option maxRecDepth 20000 in
theorem ggX0_part_X0_needText : GoodIn wsX0_part wsX0_needText := goodIn_ca (goodIn_r _ [11, 1, 2, 3, 4, 5, 6, 7, 12, 13, 14, 15, 16, 157, 158, 159, 160, 161, 162, 163, 164, 165, 166] (by decide +kernel) (by decide +kernel)) (goodIn_sub (fun _ h => List.mem_cons_of_mem _ (List.mem_append_left _ (List.mem_append_right _ h))) (by decide +kernel))
set_option maxRecDepth 20000 in
theorem gX0_part_X0_needText : GoodIn wsX0_part (wsV RX0 112 RX0 yX0_needText wsX0_needText) := goodIn_app (goodIn_of _ (by decide +kernel)) ggX0_part_X0_needText
set_option maxRecDepth 20000 in
theorem ggX0_part_X0_lengthIn : GoodIn wsX0_part wsX0_lengthIn := goodIn_r _ [20, 3, 21, 22, 23, 6, 24, 16, 25, 26, 27, 28, 157, 158, 159, 160, 161, 162, 163, 164, 165, 166] (by decide +kernel) (by decide +kernel)
set_option maxRecDepth 20000 in
theorem gX0_part_X0_lengthIn : GoodIn wsX0_part (wsV RX0 115 RX0 yX0_lengthIn wsX0_lengthIn) := goodIn_app (goodIn_of _ (by decide +kernel)) ggX0_part_X0_lengthIn
set_option maxRecDepth 20000 in
theorem ggX0_part_X0_goOver : GoodIn wsX0_part wsX0_goOver := goodIn_ca (goodIn_r _ [32, 3, 16, 12, 13, 14, 6, 15, 17, 18, 19, 20, 21, 22, 23, 24, 25, 26, 27, 28, 33, 34, 35, 36, 37, 38, 39, 40, 41, 42, 43, 44, 45, 46, 47, 48, 49, 50, 51, 52, 53, 54, 55, 56, 57, 58, 59, 60, 61, 62, 63, 64, 65, 66, 67, 68, 69, 70, 71, 72, 73, 74, 75, 76, 77, 78, 79, 80, 81, 82, 83, 84, 85, 86, 87, 88, 89, 90, 91, 92, 93, 94, 95, 96, 97, 98, 99, 100, 101, 102, 103, 104, 105, 106, 107, 108, 109, 110, 111, 112, 113, 114, 115, 116, 117, 118, 119, 120, 121, 122, 123, 124, 125, 126, 127, 128, 129, 130, 131, 132, 133, 134, 135, 136, 137, 138, 139, 140, 141, 142, 143, 144, 145, 146, 147, 148, 149, 150, 151, 152, 153, 154, 155, 156, 157, 158, 159, 160, 161, 162, 163, 164, 165, 166, 167, 168, 169, 170] (by decide +kernel) (by decide +kernel)) (goodIn_sub (fun _ h => List.mem_cons_of_mem _ (List.mem_append_right _ h)) (by decide +kernel))
set_option maxRecDepth 20000 in
theorem gX0_part_X0_goOver : GoodIn wsX0_part (wsV RX0 131 RX0 yX0_goOver wsX0_goOver) := goodIn_app (goodIn_of _ (by decide +kernel)) ggX0_part_X0_goOver
set_option maxRecDepth 20000 in
theorem ggX0_part_X0_makeFlat : GoodIn wsX0_part wsX0_makeFlat := goodIn_ca (goodIn_r _ [36, 37, 38, 39, 6, 40, 41, 42, 16, 43, 44, 45, 46, 47, 48, 49, 50, 51, 52, 53, 54, 55, 56, 57, 58, 59, 3, 60, 61, 62, 63, 64, 65, 66, 67, 25, 26, 27, 28, 68, 69, 70, 71, 72, 73, 74, 75, 76, 77, 78, 79, 80, 81, 82, 83, 84, 85, 86, 87, 88, 89, 90, 91, 92, 93, 94, 95, 96, 97, 98, 99, 100, 101, 102, 103, 104, 105, 106, 107, 108, 109, 110, 111, 112, 113, 114, 115, 116, 117, 118, 119, 120, 121, 122, 123, 124, 125, 126, 127, 128, 129, 130, 131, 132, 133, 134, 157, 158, 159, 160, 161, 162, 163, 164, 165, 166, 167, 168, 169, 170] (by decide +kernel) (by decide +kernel)) (goodIn_sub (fun _ h => List.mem_cons_of_mem _ (List.mem_append_right _ h)) (by decide +kernel))
set_option maxRecDepth 20000 in
theorem gX0_part_X0_makeFlat : GoodIn wsX0_part (wsV RX0 104 RX0 yX0_makeFlat wsX0_makeFlat) := goodIn_app (goodIn_of _ (by decide +kernel)) ggX0_part_X0_makeFlat
set_option maxRecDepth 20000 in
theorem ggX0_part_X0_flatOf : GoodIn wsX0_part wsX0_flatOf := goodIn_r _ [143, 16, 12, 13, 14, 6, 15, 157, 158, 159, 160, 161, 162, 163, 164, 165, 166] (by decide +kernel) (by decide +kernel)
set_option maxRecDepth 20000 in
theorem gX0_part_X0_flatOf : GoodIn wsX0_part (wsV RX0 134 RX0 yX0_flatOf wsX0_flatOf) := goodIn_app (goodIn_of _ (by decide +kernel)) ggX0_part_X0_flatOf
set_option maxRecDepth 20000 in
theorem ggX0_part_X0_copyUnits : GoodIn wsX0_part wsX0_copyUnits := goodIn_r _ [147, 148, 149, 150, 6, 151, 16, 152, 153, 154, 155, 156, 157, 158, 159, 160, 161, 162, 163, 164, 165, 166] (by decide +kernel) (by decide +kernel)
set_option maxRecDepth 20000 in
theorem gX0_part_X0_copyUnits : GoodIn wsX0_part (wsV RX0 137 RX0 yX0_copyUnits wsX0_copyUnits) := goodIn_app (goodIn_of _ (by decide +kernel)) ggX0_part_X0_copyUnits
theorem dX0_part_0 : decode cX0_part 0 = .ok (.iload_n 1, 1) := by decide +kernel
theorem dX0_part_1 : decode cX0_part 1 = .ok (.invokestatic 57, 3) := by decide +kernel
theorem dX0_part_4 : decode cX0_part 4 = .ok (.aload_n 0, 1) := by decide +kernel
theorem dX0_part_5 : decode cX0_part 5 = .ok (.iload_n 2, 1) := by decide +kernel
theorem dX0_part_6 : decode cX0_part 6 = .ok (.invokevirtual 112, 3) := by decide +kernel
theorem dX0_part_9 : decode cX0_part 9 = .ok (.iload_n 3, 1) := by decide +kernel
theorem dX0_part_10 : decode cX0_part 10 = .ok (.ifCond .lt 19, 3) := by decide +kernel
theorem dX0_part_13 : decode cX0_part 13 = .ok (.iload 4, 2) := by decide +kernel
theorem dX0_part_15 : decode cX0_part 15 = .ok (.iload_n 3, 1) := by decide +kernel
theorem dX0_part_16 : decode cX0_part 16 = .ok (.if_icmp .lt 13, 3) := by decide +kernel
theorem dX0_part_19 : decode cX0_part 19 = .ok (.iload 4, 2) := by decide +kernel
theorem dX0_part_21 : decode cX0_part 21 = .ok (.aload_n 0, 1) := by decide +kernel
theorem dX0_part_22 : decode cX0_part 22 = .ok (.iload_n 2, 1) := by decide +kernel
theorem dX0_part_23 : decode cX0_part 23 = .ok (.invokevirtual 115, 3) := by decide +kernel
theorem dX0_part_26 : decode cX0_part 26 = .ok (.if_icmp .le 13, 3) := by decide +kernel
theorem dX0_part_29 : decode cX0_part 29 = .ok (.new 65, 3) := by decide +kernel
theorem dX0_part_32 : decode cX0_part 32 = .ok (.dup, 1) := by decide +kernel
theorem dX0_part_33 : decode cX0_part 33 = .ok (.ldc 129, 2) := by decide +kernel
theorem dX0_part_35 : decode cX0_part 35 = .ok (.invokespecial 69, 3) := by decide +kernel
theorem dX0_part_38 : decode cX0_part 38 = .ok (.athrow, 1) := by decide +kernel
theorem dX0_part_39 : decode cX0_part 39 = .ok (.aload_n 0, 1) := by decide +kernel
theorem dX0_part_40 : decode cX0_part 40 = .ok (.iload_n 2, 1) := by decide +kernel
theorem dX0_part_41 : decode cX0_part 41 = .ok (.invokevirtual 131, 3) := by decide +kernel
theorem dX0_part_44 : decode cX0_part 44 = .ok (.aload_n 0, 1) := by decide +kernel
theorem dX0_part_45 : decode cX0_part 45 = .ok (.iconst 2, 1) := by decide +kernel
theorem dX0_part_46 : decode cX0_part 46 = .ok (.iload 4, 2) := by decide +kernel
theorem dX0_part_48 : decode cX0_part 48 = .ok (.iload_n 3, 1) := by decide +kernel
theorem dX0_part_49 : decode cX0_part 49 = .ok (.isub, 1) := by decide +kernel
theorem dX0_part_50 : decode cX0_part 50 = .ok (.invokevirtual 104, 3) := by decide +kernel
theorem dX0_part_53 : decode cX0_part 53 = .ok (.istore 5, 2) := by decide +kernel
theorem dX0_part_55 : decode cX0_part 55 = .ok (.aload_n 0, 1) := by decide +kernel
theorem dX0_part_56 : decode cX0_part 56 = .ok (.aload_n 0, 1) := by decide +kernel
theorem dX0_part_57 : decode cX0_part 57 = .ok (.aload_n 0, 1) := by decide +kernel
theorem dX0_part_58 : decode cX0_part 58 = .ok (.getfield 30, 3) := by decide +kernel
theorem dX0_part_61 : decode cX0_part 61 = .ok (.iload_n 2, 1) := by decide +kernel
theorem dX0_part_62 : decode cX0_part 62 = .ok (.iaload, 1) := by decide +kernel
theorem dX0_part_63 : decode cX0_part 63 = .ok (.invokevirtual 134, 3) := by decide +kernel
theorem dX0_part_66 : decode cX0_part 66 = .ok (.iload_n 3, 1) := by decide +kernel
theorem dX0_part_67 : decode cX0_part 67 = .ok (.iload 4, 2) := by decide +kernel
theorem dX0_part_69 : decode cX0_part 69 = .ok (.iload 5, 2) := by decide +kernel
theorem dX0_part_71 : decode cX0_part 71 = .ok (.iconst 0, 1) := by decide +kernel
theorem dX0_part_72 : decode cX0_part 72 = .ok (.invokevirtual 137, 3) := by decide +kernel
theorem dX0_part_75 : decode cX0_part 75 = .ok (.aload_n 0, 1) := by decide +kernel
theorem dX0_part_76 : decode cX0_part 76 = .ok (.getfield 30, 3) := by decide +kernel
theorem dX0_part_79 : decode cX0_part 79 = .ok (.iload_n 1, 1) := by decide +kernel
theorem dX0_part_80 : decode cX0_part 80 = .ok (.iload 5, 2) := by decide +kernel
theorem dX0_part_82 : decode cX0_part 82 = .ok (.iastore, 1) := by decide +kernel
theorem dX0_part_83 : decode cX0_part 83 = .ok (.return_, 1) := by decide +kernel
set_option maxRecDepth 20000 in
theorem ggX0_length_X0_needText : GoodIn wsX0_length wsX0_needText := goodIn_ca (goodIn_r _ [5, 6, 7, 8, 9, 10, 4, 11, 12, 13, 14, 15, 16, 29, 30, 31, 32, 33, 34, 35, 36, 37, 38] (by decide +kernel) (by decide +kernel)) (goodIn_sub (fun _ h => List.mem_cons_of_mem _ (List.mem_append_right _ h)) (by decide +kernel))
set_option maxRecDepth 20000 in
theorem gX0_length_X0_needText : GoodIn wsX0_length (wsV RX0 112 RX0 yX0_needText wsX0_needText) := goodIn_app (goodIn_of _ (by decide +kernel)) ggX0_length_X0_needText
set_option maxRecDepth 20000 in
theorem ggX0_length_X0_lengthIn : GoodIn wsX0_length wsX0_lengthIn := goodIn_r _ [20, 8, 21, 22, 23, 4, 24, 16, 25, 26, 27, 28, 29, 30, 31, 32, 33, 34, 35, 36, 37, 38] (by decide +kernel) (by decide +kernel)
set_option maxRecDepth 20000 in
theorem gX0_length_X0_lengthIn : GoodIn wsX0_length (wsV RX0 115 RX0 yX0_lengthIn wsX0_lengthIn) := goodIn_app (goodIn_of _ (by decide +kernel)) ggX0_length_X0_lengthIn
theorem dX0_length_0 : decode cX0_length 0 = .ok (.aload_n 0, 1) := by decide +kernel
theorem dX0_length_1 : decode cX0_length 1 = .ok (.iload_n 1, 1) := by decide +kernel
theorem dX0_length_2 : decode cX0_length 2 = .ok (.invokevirtual 112, 3) := by decide +kernel
theorem dX0_length_5 : decode cX0_length 5 = .ok (.aload_n 0, 1) := by decide +kernel
theorem dX0_length_6 : decode cX0_length 6 = .ok (.iload_n 1, 1) := by decide +kernel
theorem dX0_length_7 : decode cX0_length 7 = .ok (.invokevirtual 115, 3) := by decide +kernel
theorem dX0_length_10 : decode cX0_length 10 = .ok (.ireturn, 1) := by decide +kernel
set_option maxRecDepth 20000 in
theorem ggX0_unit_X0_needText : GoodIn wsX0_unit wsX0_needText := goodIn_ca (goodIn_r _ [8, 1, 2, 3, 9, 10, 7, 11, 12, 13, 14, 15, 16, 157, 158, 159, 160, 161, 162, 163, 164, 165, 166] (by decide +kernel) (by decide +kernel)) (goodIn_sub (fun _ h => List.mem_cons_of_mem _ (List.mem_append_left _ (List.mem_append_right _ h))) (by decide +kernel))
set_option maxRecDepth 20000 in
theorem gX0_unit_X0_needText : GoodIn wsX0_unit (wsV RX0 112 RX0 yX0_needText wsX0_needText) := goodIn_app (goodIn_of _ (by decide +kernel)) ggX0_unit_X0_needText
set_option maxRecDepth 20000 in
theorem ggX0_unit_X0_lengthIn : GoodIn wsX0_unit wsX0_lengthIn := goodIn_r _ [20, 3, 21, 22, 23, 7, 24, 16, 25, 26, 27, 28, 157, 158, 159, 160, 161, 162, 163, 164, 165, 166] (by decide +kernel) (by decide +kernel)
set_option maxRecDepth 20000 in
theorem gX0_unit_X0_lengthIn : GoodIn wsX0_unit (wsV RX0 115 RX0 yX0_lengthIn wsX0_lengthIn) := goodIn_app (goodIn_of _ (by decide +kernel)) ggX0_unit_X0_lengthIn
set_option maxRecDepth 20000 in
theorem ggX0_unit_X0_goOver : GoodIn wsX0_unit wsX0_goOver := goodIn_ca (goodIn_r _ [32, 3, 16, 12, 13, 14, 7, 15, 17, 18, 19, 20, 21, 22, 23, 24, 25, 26, 27, 28, 33, 34, 35, 36, 37, 38, 39, 40, 41, 42, 43, 44, 45, 46, 47, 48, 49, 50, 51, 52, 53, 54, 55, 56, 57, 58, 59, 60, 61, 62, 63, 64, 65, 66, 67, 68, 69, 70, 71, 72, 73, 74, 75, 76, 77, 78, 79, 80, 81, 82, 83, 84, 85, 86, 87, 88, 89, 90, 91, 92, 93, 94, 95, 96, 97, 98, 99, 100, 101, 102, 103, 104, 105, 106, 107, 108, 109, 110, 111, 112, 113, 114, 115, 116, 117, 118, 119, 120, 121, 122, 123, 124, 125, 126, 127, 128, 129, 130, 131, 132, 133, 134, 135, 136, 137, 138, 139, 140, 141, 142, 143, 144, 145, 146, 147, 148, 149, 150, 151, 152, 153, 154, 155, 156, 157, 158, 159, 160, 161, 162, 163, 164, 165, 166, 167, 168, 169, 170] (by decide +kernel) (by decide +kernel)) (goodIn_sub (fun _ h => List.mem_cons_of_mem _ (List.mem_append_right _ h)) (by decide +kernel))
set_option maxRecDepth 20000 in
theorem gX0_unit_X0_goOver : GoodIn wsX0_unit (wsV RX0 131 RX0 yX0_goOver wsX0_goOver) := goodIn_app (goodIn_of _ (by decide +kernel)) ggX0_unit_X0_goOver
set_option maxRecDepth 20000 in
theorem ggX0_unit_X0_flatOf : GoodIn wsX0_unit wsX0_flatOf := goodIn_r _ [143, 16, 12, 13, 14, 7, 15, 157, 158, 159, 160, 161, 162, 163, 164, 165, 166] (by decide +kernel) (by decide +kernel)
set_option maxRecDepth 20000 in
theorem gX0_unit_X0_flatOf : GoodIn wsX0_unit (wsV RX0 134 RX0 yX0_flatOf wsX0_flatOf) := goodIn_app (goodIn_of _ (by decide +kernel)) ggX0_unit_X0_flatOf
set_option maxRecDepth 20000 in
theorem ggX0_unit_X0_unitAt : GoodIn wsX0_unit wsX0_unitAt := goodIn_r _ [151, 16, 152, 157, 158, 159, 160, 161, 162, 163, 164, 165, 166] (by decide +kernel) (by decide +kernel)
set_option maxRecDepth 20000 in
theorem gX0_unit_X0_unitAt : GoodIn wsX0_unit (wsV RX0 143 RX0 yX0_unitAt wsX0_unitAt) := goodIn_app (goodIn_of _ (by decide +kernel)) ggX0_unit_X0_unitAt
theorem dX0_unit_0 : decode cX0_unit 0 = .ok (.aload_n 0, 1) := by decide +kernel
theorem dX0_unit_1 : decode cX0_unit 1 = .ok (.iload_n 1, 1) := by decide +kernel
theorem dX0_unit_2 : decode cX0_unit 2 = .ok (.invokevirtual 112, 3) := by decide +kernel
theorem dX0_unit_5 : decode cX0_unit 5 = .ok (.iload_n 2, 1) := by decide +kernel
theorem dX0_unit_6 : decode cX0_unit 6 = .ok (.ifCond .lt 12, 3) := by decide +kernel
theorem dX0_unit_9 : decode cX0_unit 9 = .ok (.iload_n 2, 1) := by decide +kernel
theorem dX0_unit_10 : decode cX0_unit 10 = .ok (.aload_n 0, 1) := by decide +kernel
theorem dX0_unit_11 : decode cX0_unit 11 = .ok (.iload_n 1, 1) := by decide +kernel
theorem dX0_unit_12 : decode cX0_unit 12 = .ok (.invokevirtual 115, 3) := by decide +kernel
theorem dX0_unit_15 : decode cX0_unit 15 = .ok (.if_icmp .lt 13, 3) := by decide +kernel
theorem dX0_unit_18 : decode cX0_unit 18 = .ok (.new 65, 3) := by decide +kernel
theorem dX0_unit_21 : decode cX0_unit 21 = .ok (.dup, 1) := by decide +kernel
theorem dX0_unit_22 : decode cX0_unit 22 = .ok (.ldc 141, 2) := by decide +kernel
theorem dX0_unit_24 : decode cX0_unit 24 = .ok (.invokespecial 69, 3) := by decide +kernel
theorem dX0_unit_27 : decode cX0_unit 27 = .ok (.athrow, 1) := by decide +kernel
theorem dX0_unit_28 : decode cX0_unit 28 = .ok (.aload_n 0, 1) := by decide +kernel
theorem dX0_unit_29 : decode cX0_unit 29 = .ok (.iload_n 1, 1) := by decide +kernel
theorem dX0_unit_30 : decode cX0_unit 30 = .ok (.invokevirtual 131, 3) := by decide +kernel
theorem dX0_unit_33 : decode cX0_unit 33 = .ok (.aload_n 0, 1) := by decide +kernel
theorem dX0_unit_34 : decode cX0_unit 34 = .ok (.aload_n 0, 1) := by decide +kernel
theorem dX0_unit_35 : decode cX0_unit 35 = .ok (.aload_n 0, 1) := by decide +kernel
theorem dX0_unit_36 : decode cX0_unit 36 = .ok (.getfield 30, 3) := by decide +kernel
theorem dX0_unit_39 : decode cX0_unit 39 = .ok (.iload_n 1, 1) := by decide +kernel
theorem dX0_unit_40 : decode cX0_unit 40 = .ok (.iaload, 1) := by decide +kernel
theorem dX0_unit_41 : decode cX0_unit 41 = .ok (.invokevirtual 134, 3) := by decide +kernel
theorem dX0_unit_44 : decode cX0_unit 44 = .ok (.iload_n 2, 1) := by decide +kernel
theorem dX0_unit_45 : decode cX0_unit 45 = .ok (.invokevirtual 143, 3) := by decide +kernel
theorem dX0_unit_48 : decode cX0_unit 48 = .ok (.ireturn, 1) := by decide +kernel
set_option maxRecDepth 20000 in
theorem ggX0_compare_X0_needText : GoodIn wsX0_compare wsX0_needText := goodIn_ca (goodIn_r _ [10, 11, 12, 1, 13, 14, 9, 15, 16, 17, 18, 19, 20, 161, 162, 163, 164, 165, 166, 167, 168, 169, 170] (by decide +kernel) (by decide +kernel)) (goodIn_sub (fun _ h => List.mem_cons_of_mem _ (List.mem_append_left _ (List.mem_append_right _ h))) (by decide +kernel))
set_option maxRecDepth 20000 in
theorem gX0_compare_X0_needText : GoodIn wsX0_compare (wsV RX0 112 RX0 yX0_needText wsX0_needText) := goodIn_app (goodIn_of _ (by decide +kernel)) ggX0_compare_X0_needText
set_option maxRecDepth 20000 in
theorem ggX0_compare_X0_goOver : GoodIn wsX0_compare wsX0_goOver := goodIn_ca (goodIn_r _ [24, 1, 20, 16, 17, 18, 9, 19, 25, 26, 27, 28, 29, 30, 31, 32, 33, 34, 35, 36, 37, 38, 39, 40, 41, 42, 43, 44, 45, 46, 47, 48, 49, 50, 51, 52, 53, 54, 55, 56, 57, 58, 59, 60, 61, 62, 63, 64, 65, 66, 67, 68, 69, 70, 71, 72, 73, 74, 75, 76, 77, 78, 79, 80, 81, 82, 83, 84, 85, 86, 87, 88, 89, 90, 91, 92, 93, 94, 95, 96, 97, 98, 99, 100, 101, 102, 103, 104, 105, 2, 3, 4, 5, 106, 107, 108, 109, 110, 111, 112, 113, 114, 115, 116, 117, 118, 119, 120, 121, 122, 123, 124, 125, 126, 127, 128, 129, 130, 131, 132, 133, 134, 135, 136, 137, 138, 139, 140, 141, 142, 143, 144, 145, 146, 147, 148, 149, 150, 151, 152, 153, 154, 155, 156, 161, 162, 163, 164, 165, 166, 167, 168, 169, 170, 171, 172, 173, 174] (by decide +kernel) (by decide +kernel)) (goodIn_sub (fun _ h => List.mem_cons_of_mem _ (List.mem_append_right _ h)) (by decide +kernel))
set_option maxRecDepth 20000 in
theorem gX0_compare_X0_goOver : GoodIn wsX0_compare (wsV RX0 131 RX0 yX0_goOver wsX0_goOver) := goodIn_app (goodIn_of _ (by decide +kernel)) ggX0_compare_X0_goOver
set_option maxRecDepth 20000 in
theorem ggX0_compare_X0_flatOf : GoodIn wsX0_compare wsX0_flatOf := goodIn_r _ [143, 20, 16, 17, 18, 9, 19, 161, 162, 163, 164, 165, 166, 167, 168, 169, 170] (by decide +kernel) (by decide +kernel)
set_option maxRecDepth 20000 in
theorem gX0_compare_X0_flatOf : GoodIn wsX0_compare (wsV RX0 134 RX0 yX0_flatOf wsX0_flatOf) := goodIn_app (goodIn_of _ (by decide +kernel)) ggX0_compare_X0_flatOf
set_option maxRecDepth 20000 in
theorem ggX0_compare_X0_lengthIn : GoodIn wsX0_compare wsX0_lengthIn := goodIn_r _ [28, 1, 29, 30, 31, 9, 32, 20, 33, 34, 35, 36, 161, 162, 163, 164, 165, 166, 167, 168, 169, 170] (by decide +kernel) (by decide +kernel)
set_option maxRecDepth 20000 in
theorem gX0_compare_X0_lengthIn : GoodIn wsX0_compare (wsV RX0 115 RX0 yX0_lengthIn wsX0_lengthIn) := goodIn_app (goodIn_of _ (by decide +kernel)) ggX0_compare_X0_lengthIn
set_option maxRecDepth 20000 in
theorem ggX0_compare_X0_unitAt : GoodIn wsX0_compare wsX0_unitAt := goodIn_r _ [151, 20, 152, 161, 162, 163, 164, 165, 166, 167, 168, 169, 170] (by decide +kernel) (by decide +kernel)
set_option maxRecDepth 20000 in
theorem gX0_compare_X0_unitAt : GoodIn wsX0_compare (wsV RX0 143 RX0 yX0_unitAt wsX0_unitAt) := goodIn_app (goodIn_of _ (by decide +kernel)) ggX0_compare_X0_unitAt
set_option maxRecDepth 20000 in
theorem ggX0_compare_J6_signum_0f7a4 : GoodIn wsX0_compare wsJ6_signum_0f7a4 := goodIn_r _ [160] (by decide +kernel) (by decide +kernel)
set_option maxRecDepth 20000 in
theorem gX0_compare_J6_signum_0f7a4 : GoodIn wsX0_compare (va_wsS RX0 146 yJ6_signum_0f7a4 wsJ6_signum_0f7a4) := goodIn_app (goodIn_of _ (by decide +kernel)) ggX0_compare_J6_signum_0f7a4
theorem dX0_compare_0 : decode cX0_compare 0 = .ok (.aload_n 0, 1) := by decide +kernel
theorem dX0_compare_1 : decode cX0_compare 1 = .ok (.iload_n 1, 1) := by decide +kernel
theorem dX0_compare_2 : decode cX0_compare 2 = .ok (.invokevirtual 112, 3) := by decide +kernel
theorem dX0_compare_5 : decode cX0_compare 5 = .ok (.aload_n 0, 1) := by decide +kernel
theorem dX0_compare_6 : decode cX0_compare 6 = .ok (.iload_n 2, 1) := by decide +kernel
theorem dX0_compare_7 : decode cX0_compare 7 = .ok (.invokevirtual 112, 3) := by decide +kernel
theorem dX0_compare_10 : decode cX0_compare 10 = .ok (.aload_n 0, 1) := by decide +kernel
theorem dX0_compare_11 : decode cX0_compare 11 = .ok (.iload_n 1, 1) := by decide +kernel
theorem dX0_compare_12 : decode cX0_compare 12 = .ok (.invokevirtual 131, 3) := by decide +kernel
theorem dX0_compare_15 : decode cX0_compare 15 = .ok (.aload_n 0, 1) := by decide +kernel
theorem dX0_compare_16 : decode cX0_compare 16 = .ok (.iload_n 2, 1) := by decide +kernel
theorem dX0_compare_17 : decode cX0_compare 17 = .ok (.invokevirtual 131, 3) := by decide +kernel
theorem dX0_compare_20 : decode cX0_compare 20 = .ok (.aload_n 0, 1) := by decide +kernel
theorem dX0_compare_21 : decode cX0_compare 21 = .ok (.aload_n 0, 1) := by decide +kernel
theorem dX0_compare_22 : decode cX0_compare 22 = .ok (.getfield 30, 3) := by decide +kernel
theorem dX0_compare_25 : decode cX0_compare 25 = .ok (.iload_n 1, 1) := by decide +kernel
theorem dX0_compare_26 : decode cX0_compare 26 = .ok (.iaload, 1) := by decide +kernel
theorem dX0_compare_27 : decode cX0_compare 27 = .ok (.invokevirtual 134, 3) := by decide +kernel
theorem dX0_compare_30 : decode cX0_compare 30 = .ok (.istore_n 3, 1) := by decide +kernel
theorem dX0_compare_31 : decode cX0_compare 31 = .ok (.aload_n 0, 1) := by decide +kernel
theorem dX0_compare_32 : decode cX0_compare 32 = .ok (.aload_n 0, 1) := by decide +kernel
theorem dX0_compare_33 : decode cX0_compare 33 = .ok (.getfield 30, 3) := by decide +kernel
theorem dX0_compare_36 : decode cX0_compare 36 = .ok (.iload_n 2, 1) := by decide +kernel
theorem dX0_compare_37 : decode cX0_compare 37 = .ok (.iaload, 1) := by decide +kernel
theorem dX0_compare_38 : decode cX0_compare 38 = .ok (.invokevirtual 134, 3) := by decide +kernel
theorem dX0_compare_41 : decode cX0_compare 41 = .ok (.istore 4, 2) := by decide +kernel
theorem dX0_compare_43 : decode cX0_compare 43 = .ok (.aload_n 0, 1) := by decide +kernel
theorem dX0_compare_44 : decode cX0_compare 44 = .ok (.iload_n 1, 1) := by decide +kernel
theorem dX0_compare_45 : decode cX0_compare 45 = .ok (.invokevirtual 115, 3) := by decide +kernel
theorem dX0_compare_48 : decode cX0_compare 48 = .ok (.aload_n 0, 1) := by decide +kernel
theorem dX0_compare_49 : decode cX0_compare 49 = .ok (.iload_n 2, 1) := by decide +kernel
theorem dX0_compare_50 : decode cX0_compare 50 = .ok (.invokevirtual 115, 3) := by decide +kernel
theorem dX0_compare_53 : decode cX0_compare 53 = .ok (.invokestatic 10, 3) := by decide +kernel
theorem dX0_compare_56 : decode cX0_compare 56 = .ok (.istore 5, 2) := by decide +kernel
theorem dX0_compare_58 : decode cX0_compare 58 = .ok (.iconst 0, 1) := by decide +kernel
theorem dX0_compare_59 : decode cX0_compare 59 = .ok (.istore 6, 2) := by decide +kernel
theorem dX0_compare_61 : decode cX0_compare 61 = .ok (.iload 6, 2) := by decide +kernel
theorem dX0_compare_63 : decode cX0_compare 63 = .ok (.iload 5, 2) := by decide +kernel
theorem dX0_compare_65 : decode cX0_compare 65 = .ok (.if_icmp .ge 38, 3) := by decide +kernel
theorem dX0_compare_68 : decode cX0_compare 68 = .ok (.aload_n 0, 1) := by decide +kernel
theorem dX0_compare_69 : decode cX0_compare 69 = .ok (.iload_n 3, 1) := by decide +kernel
theorem dX0_compare_70 : decode cX0_compare 70 = .ok (.iload 6, 2) := by decide +kernel
theorem dX0_compare_72 : decode cX0_compare 72 = .ok (.invokevirtual 143, 3) := by decide +kernel
theorem dX0_compare_75 : decode cX0_compare 75 = .ok (.aload_n 0, 1) := by decide +kernel
theorem dX0_compare_76 : decode cX0_compare 76 = .ok (.iload 4, 2) := by decide +kernel
theorem dX0_compare_78 : decode cX0_compare 78 = .ok (.iload 6, 2) := by decide +kernel
theorem dX0_compare_80 : decode cX0_compare 80 = .ok (.invokevirtual 143, 3) := by decide +kernel
theorem dX0_compare_83 : decode cX0_compare 83 = .ok (.isub, 1) := by decide +kernel
theorem dX0_compare_84 : decode cX0_compare 84 = .ok (.istore 7, 2) := by decide +kernel
theorem dX0_compare_86 : decode cX0_compare 86 = .ok (.iload 7, 2) := by decide +kernel
theorem dX0_compare_88 : decode cX0_compare 88 = .ok (.ifCond .eq 9, 3) := by decide +kernel
theorem dX0_compare_91 : decode cX0_compare 91 = .ok (.iload 7, 2) := by decide +kernel
theorem dX0_compare_93 : decode cX0_compare 93 = .ok (.invokestatic 146, 3) := by decide +kernel
theorem dX0_compare_96 : decode cX0_compare 96 = .ok (.ireturn, 1) := by decide +kernel
theorem dX0_compare_97 : decode cX0_compare 97 = .ok (.iinc 6 1, 3) := by decide +kernel
theorem dX0_compare_100 : decode cX0_compare 100 = .ok (.goto (-39), 3) := by decide +kernel
theorem dX0_compare_103 : decode cX0_compare 103 = .ok (.aload_n 0, 1) := by decide +kernel
theorem dX0_compare_104 : decode cX0_compare 104 = .ok (.iload_n 1, 1) := by decide +kernel
theorem dX0_compare_105 : decode cX0_compare 105 = .ok (.invokevirtual 115, 3) := by decide +kernel
theorem dX0_compare_108 : decode cX0_compare 108 = .ok (.aload_n 0, 1) := by decide +kernel
theorem dX0_compare_109 : decode cX0_compare 109 = .ok (.iload_n 2, 1) := by decide +kernel
theorem dX0_compare_110 : decode cX0_compare 110 = .ok (.invokevirtual 115, 3) := by decide +kernel
theorem dX0_compare_113 : decode cX0_compare 113 = .ok (.isub, 1) := by decide +kernel
theorem dX0_compare_114 : decode cX0_compare 114 = .ok (.invokestatic 146, 3) := by decide +kernel
theorem dX0_compare_117 : decode cX0_compare 117 = .ok (.ireturn, 1) := by decide +kernel
set_option maxRecDepth 20000 in
theorem ggX0_name_X0_needRoot : GoodIn wsX0_name wsX0_needRoot := goodIn_ca (goodIn_r _ [5, 6, 7] (by decide +kernel) (by decide +kernel)) (goodIn_sub (fun _ h => List.mem_cons_of_mem _ (List.mem_append_left _ (List.mem_append_right _ h))) (by decide +kernel))
set_option maxRecDepth 20000 in
theorem gX0_name_X0_needRoot : GoodIn wsX0_name (va_wsS RX0 57 yX0_needRoot wsX0_needRoot) := goodIn_app (goodIn_of _ (by decide +kernel)) ggX0_name_X0_needRoot
set_option maxRecDepth 20000 in
theorem ggX0_name_X0_needText : GoodIn wsX0_name wsX0_needText := goodIn_ca (goodIn_r _ [11, 6, 7, 1, 2, 3, 4, 5, 12, 13, 14, 15, 16, 169, 170, 171, 172, 173, 174, 175, 176, 177, 178] (by decide +kernel) (by decide +kernel)) (goodIn_sub (fun _ h => List.mem_cons_of_mem _ (List.mem_append_left _ (List.mem_append_right _ h))) (by decide +kernel))
set_option maxRecDepth 20000 in
theorem gX0_name_X0_needText : GoodIn wsX0_name (wsV RX0 112 RX0 yX0_needText wsX0_needText) := goodIn_app (goodIn_of _ (by decide +kernel)) ggX0_name_X0_needText
set_option maxRecDepth 20000 in
theorem ggX0_name_X0_kindAt : GoodIn wsX0_name wsX0_kindAt := goodIn_r _ [15, 16, 169, 170, 171, 172, 173, 174, 175, 176, 177, 178] (by decide +kernel) (by decide +kernel)
set_option maxRecDepth 20000 in
theorem gX0_name_X0_kindAt : GoodIn wsX0_name (wsV RX0 76 RX0 yX0_kindAt wsX0_kindAt) := goodIn_app (goodIn_of _ (by decide +kernel)) ggX0_name_X0_kindAt
set_option maxRecDepth 20000 in
theorem ggX0_name_X0_goOver : GoodIn wsX0_name wsX0_goOver := goodIn_ca (goodIn_r _ [20, 1, 16, 12, 13, 14, 4, 15, 21, 22, 23, 24, 25, 26, 27, 28, 29, 30, 31, 32, 33, 34, 35, 36, 37, 38, 39, 40, 41, 42, 43, 44, 45, 46, 47, 48, 49, 50, 51, 52, 53, 54, 55, 56, 57, 58, 59, 60, 61, 62, 63, 64, 65, 66, 67, 68, 69, 70, 71, 72, 73, 74, 75, 76, 77, 78, 79, 80, 81, 82, 83, 84, 85, 86, 87, 88, 89, 90, 91, 92, 93, 94, 95, 96, 97, 98, 99, 100, 101, 102, 103, 104, 105, 106, 107, 108, 109, 110, 111, 112, 113, 114, 115, 116, 117, 118, 119, 120, 121, 122, 123, 124, 125, 126, 127, 128, 129, 130, 131, 132, 133, 134, 135, 136, 137, 138, 139, 140, 141, 142, 143, 144, 145, 146, 147, 148, 149, 150, 151, 152, 153, 154, 155, 156, 169, 170, 171, 172, 173, 174, 175, 176, 177, 178, 179, 180, 181, 182] (by decide +kernel) (by decide +kernel)) (goodIn_sub (fun _ h => List.mem_cons_of_mem _ (List.mem_append_right _ h)) (by decide +kernel))
set_option maxRecDepth 20000 in
theorem gX0_name_X0_goOver : GoodIn wsX0_name (wsV RX0 131 RX0 yX0_goOver wsX0_goOver) := goodIn_app (goodIn_of _ (by decide +kernel)) ggX0_name_X0_goOver
set_option maxRecDepth 20000 in
theorem ggX0_name_X0_flatOf : GoodIn wsX0_name wsX0_flatOf := goodIn_r _ [143, 16, 12, 13, 14, 4, 15, 169, 170, 171, 172, 173, 174, 175, 176, 177, 178] (by decide +kernel) (by decide +kernel)
set_option maxRecDepth 20000 in
theorem gX0_name_X0_flatOf : GoodIn wsX0_name (wsV RX0 134 RX0 yX0_flatOf wsX0_flatOf) := goodIn_app (goodIn_of _ (by decide +kernel)) ggX0_name_X0_flatOf
set_option maxRecDepth 20000 in
theorem ggX0_name_X0_findName : GoodIn wsX0_name wsX0_findName := goodIn_r _ [160, 88, 89, 161, 162, 163, 4, 164, 16, 25, 26, 27, 28, 29, 30, 31, 32, 80, 81, 82, 83, 169, 170, 171, 172, 173, 174, 175, 176, 177, 178] (by decide +kernel) (by decide +kernel)
set_option maxRecDepth 20000 in
theorem gX0_name_X0_findName : GoodIn wsX0_name (wsV RX0 151 RX0 yX0_findName wsX0_findName) := goodIn_app (goodIn_of _ (by decide +kernel)) ggX0_name_X0_findName
set_option maxRecDepth 20000 in
theorem ggX0_name_X0_makeName : GoodIn wsX0_name wsX0_makeName := goodIn_ca (goodIn_r _ [168, 1, 88, 89, 21, 22, 23, 4, 24, 25, 26, 27, 28, 16, 29, 30, 31, 32, 33, 34, 35, 36, 37, 38, 39, 40, 41, 42, 43, 44, 45, 46, 47, 48, 49, 50, 51, 52, 53, 54, 55, 56, 57, 58, 59, 60, 61, 62, 63, 64, 65, 66, 67, 68, 69, 70, 71, 72, 73, 74, 75, 76, 77, 78, 79, 80, 81, 82, 83, 84, 85, 86, 87, 90, 91, 92, 93, 94, 95, 96, 97, 98, 99, 100, 101, 102, 103, 104, 105, 106, 107, 108, 109, 110, 111, 112, 113, 114, 115, 116, 117, 118, 119, 120, 121, 122, 123, 124, 125, 126, 127, 128, 129, 130, 131, 132, 133, 134, 140, 141, 142, 143, 12, 13, 14, 15, 144, 145, 146, 147, 148, 149, 150, 151, 152, 153, 154, 155, 156, 169, 170, 171, 172, 173, 174, 175, 176, 177, 178, 179, 180, 181, 182] (by decide +kernel) (by decide +kernel)) (goodIn_sub (fun _ h => List.mem_cons_of_mem _ (List.mem_append_right _ h)) (by decide +kernel))
set_option maxRecDepth 20000 in
theorem gX0_name_X0_makeName : GoodIn wsX0_name (wsV RX0 154 RX0 yX0_makeName wsX0_makeName) := goodIn_app (goodIn_of _ (by decide +kernel)) ggX0_name_X0_makeName
theorem dX0_name_0 : decode cX0_name 0 = .ok (.iload_n 1, 1) := by decide +kernel
theorem dX0_name_1 : decode cX0_name 1 = .ok (.invokestatic 57, 3) := by decide +kernel
theorem dX0_name_4 : decode cX0_name 4 = .ok (.aload_n 0, 1) := by decide +kernel
theorem dX0_name_5 : decode cX0_name 5 = .ok (.iload_n 2, 1) := by decide +kernel
theorem dX0_name_6 : decode cX0_name 6 = .ok (.invokevirtual 112, 3) := by decide +kernel
theorem dX0_name_9 : decode cX0_name 9 = .ok (.aload_n 0, 1) := by decide +kernel
theorem dX0_name_10 : decode cX0_name 10 = .ok (.aload_n 0, 1) := by decide +kernel
theorem dX0_name_11 : decode cX0_name 11 = .ok (.getfield 30, 3) := by decide +kernel
theorem dX0_name_14 : decode cX0_name 14 = .ok (.iload_n 2, 1) := by decide +kernel
theorem dX0_name_15 : decode cX0_name 15 = .ok (.iaload, 1) := by decide +kernel
theorem dX0_name_16 : decode cX0_name 16 = .ok (.invokevirtual 76, 3) := by decide +kernel
theorem dX0_name_19 : decode cX0_name 19 = .ok (.iconst 5, 1) := by decide +kernel
theorem dX0_name_20 : decode cX0_name 20 = .ok (.if_icmp .ne 16, 3) := by decide +kernel
theorem dX0_name_23 : decode cX0_name 23 = .ok (.aload_n 0, 1) := by decide +kernel
theorem dX0_name_24 : decode cX0_name 24 = .ok (.getfield 30, 3) := by decide +kernel
theorem dX0_name_27 : decode cX0_name 27 = .ok (.iload_n 1, 1) := by decide +kernel
theorem dX0_name_28 : decode cX0_name 28 = .ok (.aload_n 0, 1) := by decide +kernel
theorem dX0_name_29 : decode cX0_name 29 = .ok (.getfield 30, 3) := by decide +kernel
theorem dX0_name_32 : decode cX0_name 32 = .ok (.iload_n 2, 1) := by decide +kernel
theorem dX0_name_33 : decode cX0_name 33 = .ok (.iaload, 1) := by decide +kernel
theorem dX0_name_34 : decode cX0_name 34 = .ok (.iastore, 1) := by decide +kernel
theorem dX0_name_35 : decode cX0_name 35 = .ok (.return_, 1) := by decide +kernel
theorem dX0_name_36 : decode cX0_name 36 = .ok (.aload_n 0, 1) := by decide +kernel
theorem dX0_name_37 : decode cX0_name 37 = .ok (.iload_n 2, 1) := by decide +kernel
theorem dX0_name_38 : decode cX0_name 38 = .ok (.invokevirtual 131, 3) := by decide +kernel
theorem dX0_name_41 : decode cX0_name 41 = .ok (.aload_n 0, 1) := by decide +kernel
theorem dX0_name_42 : decode cX0_name 42 = .ok (.aload_n 0, 1) := by decide +kernel
theorem dX0_name_43 : decode cX0_name 43 = .ok (.aload_n 0, 1) := by decide +kernel
theorem dX0_name_44 : decode cX0_name 44 = .ok (.getfield 30, 3) := by decide +kernel
theorem dX0_name_47 : decode cX0_name 47 = .ok (.iload_n 2, 1) := by decide +kernel
theorem dX0_name_48 : decode cX0_name 48 = .ok (.iaload, 1) := by decide +kernel
theorem dX0_name_49 : decode cX0_name 49 = .ok (.invokevirtual 134, 3) := by decide +kernel
theorem dX0_name_52 : decode cX0_name 52 = .ok (.invokevirtual 151, 3) := by decide +kernel
theorem dX0_name_55 : decode cX0_name 55 = .ok (.istore_n 3, 1) := by decide +kernel
theorem dX0_name_56 : decode cX0_name 56 = .ok (.aload_n 0, 1) := by decide +kernel
theorem dX0_name_57 : decode cX0_name 57 = .ok (.getfield 30, 3) := by decide +kernel
theorem dX0_name_60 : decode cX0_name 60 = .ok (.iload_n 1, 1) := by decide +kernel
theorem dX0_name_61 : decode cX0_name 61 = .ok (.iload_n 3, 1) := by decide +kernel
theorem dX0_name_62 : decode cX0_name 62 = .ok (.iconst (-1), 1) := by decide +kernel
theorem dX0_name_63 : decode cX0_name 63 = .ok (.if_icmp .ne 11, 3) := by decide +kernel
theorem dX0_name_66 : decode cX0_name 66 = .ok (.aload_n 0, 1) := by decide +kernel
theorem dX0_name_67 : decode cX0_name 67 = .ok (.iload_n 2, 1) := by decide +kernel
theorem dX0_name_68 : decode cX0_name 68 = .ok (.invokevirtual 154, 3) := by decide +kernel
theorem dX0_name_71 : decode cX0_name 71 = .ok (.goto 4, 3) := by decide +kernel
theorem dX0_name_74 : decode cX0_name 74 = .ok (.iload_n 3, 1) := by decide +kernel
theorem dX0_name_75 : decode cX0_name 75 = .ok (.iastore, 1) := by decide +kernel
theorem dX0_name_76 : decode cX0_name 76 = .ok (.return_, 1) := by decide +kernel
set_option maxRecDepth 20000 in
theorem ggX0_collect_X0_slideTogether : GoodIn wsX0_collect wsX0_slideTogether := goodIn_r _ [6, 1, 7, 8, 9, 10, 11, 5, 12, 13, 14, 15, 16, 17, 18, 19, 20, 21, 22, 23, 24, 25, 26, 27, 28, 29, 30, 31, 32, 33, 34, 35, 36, 37, 38, 39, 40, 41, 42, 43, 44, 45, 46, 47, 48, 49, 50, 51, 52, 53, 54, 55, 56, 57, 58, 59, 60, 61, 62, 63, 64, 65] (by decide +kernel) (by decide +kernel)
set_option maxRecDepth 20000 in
theorem gX0_collect_X0_slideTogether : GoodIn wsX0_collect (wsV RX0 157 RX0 yX0_slideTogether wsX0_slideTogether) := goodIn_app (goodIn_of _ (by decide +kernel)) ggX0_collect_X0_slideTogether
theorem dX0_collect_0 : decode cX0_collect 0 = .ok (.aload_n 0, 1) := by decide +kernel
theorem dX0_collect_1 : decode cX0_collect 1 = .ok (.invokevirtual 157, 3) := by decide +kernel
theorem dX0_collect_4 : decode cX0_collect 4 = .ok (.aload_n 0, 1) := by decide +kernel
theorem dX0_collect_5 : decode cX0_collect 5 = .ok (.getfield 27, 3) := by decide +kernel
theorem dX0_collect_8 : decode cX0_collect 8 = .ok (.ireturn, 1) := by decide +kernel
theorem dX0_stress_0 : decode cX0_stress 0 = .ok (.iload_n 1, 1) := by decide +kernel
theorem dX0_stress_1 : decode cX0_stress 1 = .ok (.ifCond .ge 13, 3) := by decide +kernel
theorem dX0_stress_4 : decode cX0_stress 4 = .ok (.new 65, 3) := by decide +kernel
theorem dX0_stress_7 : decode cX0_stress 7 = .ok (.dup, 1) := by decide +kernel
theorem dX0_stress_8 : decode cX0_stress 8 = .ok (.ldc 160, 2) := by decide +kernel
theorem dX0_stress_10 : decode cX0_stress 10 = .ok (.invokespecial 69, 3) := by decide +kernel
theorem dX0_stress_13 : decode cX0_stress 13 = .ok (.athrow, 1) := by decide +kernel
theorem dX0_stress_14 : decode cX0_stress 14 = .ok (.aload_n 0, 1) := by decide +kernel
theorem dX0_stress_15 : decode cX0_stress 15 = .ok (.iload_n 1, 1) := by decide +kernel
theorem dX0_stress_16 : decode cX0_stress 16 = .ok (.putfield 51, 3) := by decide +kernel
theorem dX0_stress_19 : decode cX0_stress 19 = .ok (.aload_n 0, 1) := by decide +kernel
theorem dX0_stress_20 : decode cX0_stress 20 = .ok (.iconst 0, 1) := by decide +kernel
theorem dX0_stress_21 : decode cX0_stress 21 = .ok (.putfield 54, 3) := by decide +kernel
theorem dX0_stress_24 : decode cX0_stress 24 = .ok (.return_, 1) := by decide +kernel
theorem dX0_isUpTo_0 : decode cX0_isUpTo 0 = .ok (.iload_n 0, 1) := by decide +kernel
theorem dX0_isUpTo_1 : decode cX0_isUpTo 1 = .ok (.ifCond .lt 12, 3) := by decide +kernel
theorem dX0_isUpTo_4 : decode cX0_isUpTo 4 = .ok (.iload_n 0, 1) := by decide +kernel
theorem dX0_isUpTo_5 : decode cX0_isUpTo 5 = .ok (.iload_n 1, 1) := by decide +kernel
theorem dX0_isUpTo_6 : decode cX0_isUpTo 6 = .ok (.if_icmp .gt 7, 3) := by decide +kernel
theorem dX0_isUpTo_9 : decode cX0_isUpTo 9 = .ok (.iconst 1, 1) := by decide +kernel
theorem dX0_isUpTo_10 : decode cX0_isUpTo 10 = .ok (.goto 4, 3) := by decide +kernel
theorem dX0_isUpTo_13 : decode cX0_isUpTo 13 = .ok (.iconst 0, 1) := by decide +kernel
theorem dX0_isUpTo_14 : decode cX0_isUpTo 14 = .ok (.ireturn, 1) := by decide +kernel
theorem dX0_needRoot_0 : decode cX0_needRoot 0 = .ok (.iload_n 0, 1) := by decide +kernel
theorem dX0_needRoot_1 : decode cX0_needRoot 1 = .ok (.ifCond .lt 9, 3) := by decide +kernel
theorem dX0_needRoot_4 : decode cX0_needRoot 4 = .ok (.iload_n 0, 1) := by decide +kernel
theorem dX0_needRoot_5 : decode cX0_needRoot 5 = .ok (.bipush 24, 2) := by decide +kernel
theorem dX0_needRoot_7 : decode cX0_needRoot 7 = .ok (.if_icmp .lt 13, 3) := by decide +kernel
theorem dX0_needRoot_10 : decode cX0_needRoot 10 = .ok (.new 65, 3) := by decide +kernel
theorem dX0_needRoot_13 : decode cX0_needRoot 13 = .ok (.dup, 1) := by decide +kernel
theorem dX0_needRoot_14 : decode cX0_needRoot 14 = .ok (.ldc 162, 2) := by decide +kernel
theorem dX0_needRoot_16 : decode cX0_needRoot 16 = .ok (.invokespecial 69, 3) := by decide +kernel
theorem dX0_needRoot_19 : decode cX0_needRoot 19 = .ok (.athrow, 1) := by decide +kernel
theorem dX0_needRoot_20 : decode cX0_needRoot 20 = .ok (.return_, 1) := by decide +kernel
set_option maxRecDepth 20000 in
theorem ggX0_needText_X0_needRoot : GoodIn wsX0_needText wsX0_needRoot := goodIn_ca (goodIn_r _ [7, 1, 2] (by decide +kernel) (by decide +kernel)) (goodIn_sub (fun _ h => List.mem_cons_of_mem _ (List.mem_append_right _ h)) (by decide +kernel))
set_option maxRecDepth 20000 in
theorem gX0_needText_X0_needRoot : GoodIn wsX0_needText (va_wsS RX0 57 yX0_needRoot wsX0_needRoot) := goodIn_app (goodIn_of _ (by decide +kernel)) ggX0_needText_X0_needRoot
set_option maxRecDepth 20000 in
theorem ggX0_needText_X0_kindAt : GoodIn wsX0_needText wsX0_kindAt := goodIn_r _ [11, 12, 13, 14, 15, 16, 17, 18, 19, 20, 21, 22] (by decide +kernel) (by decide +kernel)
set_option maxRecDepth 20000 in
theorem gX0_needText_X0_kindAt : GoodIn wsX0_needText (wsV RX0 76 RX0 yX0_kindAt wsX0_kindAt) := goodIn_app (goodIn_of _ (by decide +kernel)) ggX0_needText_X0_kindAt
theorem dX0_needText_0 : decode cX0_needText 0 = .ok (.iload_n 1, 1) := by decide +kernel
theorem dX0_needText_1 : decode cX0_needText 1 = .ok (.invokestatic 57, 3) := by decide +kernel
theorem dX0_needText_4 : decode cX0_needText 4 = .ok (.aload_n 0, 1) := by decide +kernel
theorem dX0_needText_5 : decode cX0_needText 5 = .ok (.aload_n 0, 1) := by decide +kernel
theorem dX0_needText_6 : decode cX0_needText 6 = .ok (.getfield 30, 3) := by decide +kernel
theorem dX0_needText_9 : decode cX0_needText 9 = .ok (.iload_n 1, 1) := by decide +kernel
theorem dX0_needText_10 : decode cX0_needText 10 = .ok (.iaload, 1) := by decide +kernel
theorem dX0_needText_11 : decode cX0_needText 11 = .ok (.invokevirtual 76, 3) := by decide +kernel
theorem dX0_needText_14 : decode cX0_needText 14 = .ok (.istore_n 2, 1) := by decide +kernel
theorem dX0_needText_15 : decode cX0_needText 15 = .ok (.iload_n 2, 1) := by decide +kernel
theorem dX0_needText_16 : decode cX0_needText 16 = .ok (.ifCond .eq 8, 3) := by decide +kernel
theorem dX0_needText_19 : decode cX0_needText 19 = .ok (.iload_n 2, 1) := by decide +kernel
theorem dX0_needText_20 : decode cX0_needText 20 = .ok (.iconst 1, 1) := by decide +kernel
theorem dX0_needText_21 : decode cX0_needText 21 = .ok (.if_icmp .ne 13, 3) := by decide +kernel
theorem dX0_needText_24 : decode cX0_needText 24 = .ok (.new 65, 3) := by decide +kernel
theorem dX0_needText_27 : decode cX0_needText 27 = .ok (.dup, 1) := by decide +kernel
theorem dX0_needText_28 : decode cX0_needText 28 = .ok (.ldc 164, 2) := by decide +kernel
theorem dX0_needText_30 : decode cX0_needText 30 = .ok (.invokespecial 69, 3) := by decide +kernel
theorem dX0_needText_33 : decode cX0_needText 33 = .ok (.athrow, 1) := by decide +kernel
theorem dX0_needText_34 : decode cX0_needText 34 = .ok (.return_, 1) := by decide +kernel
set_option maxRecDepth 20000 in
theorem ggX0_needBlock_X0_needRoot : GoodIn wsX0_needBlock wsX0_needRoot := goodIn_ca (goodIn_r _ [7, 1, 2] (by decide +kernel) (by decide +kernel)) (goodIn_sub (fun _ h => List.mem_cons_of_mem _ (List.mem_append_right _ h)) (by decide +kernel))
set_option maxRecDepth 20000 in
theorem gX0_needBlock_X0_needRoot : GoodIn wsX0_needBlock (va_wsS RX0 57 yX0_needRoot wsX0_needRoot) := goodIn_app (goodIn_of _ (by decide +kernel)) ggX0_needBlock_X0_needRoot
set_option maxRecDepth 20000 in
theorem ggX0_needBlock_X0_kindAt : GoodIn wsX0_needBlock wsX0_kindAt := goodIn_r _ [11, 12, 13, 14, 15, 16, 17, 18, 19, 20, 21, 22] (by decide +kernel) (by decide +kernel)
set_option maxRecDepth 20000 in
theorem gX0_needBlock_X0_kindAt : GoodIn wsX0_needBlock (wsV RX0 76 RX0 yX0_kindAt wsX0_kindAt) := goodIn_app (goodIn_of _ (by decide +kernel)) ggX0_needBlock_X0_kindAt
theorem dX0_needBlock_0 : decode cX0_needBlock 0 = .ok (.iload_n 1, 1) := by decide +kernel
theorem dX0_needBlock_1 : decode cX0_needBlock 1 = .ok (.invokestatic 57, 3) := by decide +kernel
theorem dX0_needBlock_4 : decode cX0_needBlock 4 = .ok (.aload_n 0, 1) := by decide +kernel
theorem dX0_needBlock_5 : decode cX0_needBlock 5 = .ok (.getfield 30, 3) := by decide +kernel
theorem dX0_needBlock_8 : decode cX0_needBlock 8 = .ok (.iload_n 1, 1) := by decide +kernel
theorem dX0_needBlock_9 : decode cX0_needBlock 9 = .ok (.iaload, 1) := by decide +kernel
theorem dX0_needBlock_10 : decode cX0_needBlock 10 = .ok (.istore_n 2, 1) := by decide +kernel
theorem dX0_needBlock_11 : decode cX0_needBlock 11 = .ok (.aload_n 0, 1) := by decide +kernel
theorem dX0_needBlock_12 : decode cX0_needBlock 12 = .ok (.iload_n 2, 1) := by decide +kernel
theorem dX0_needBlock_13 : decode cX0_needBlock 13 = .ok (.invokevirtual 76, 3) := by decide +kernel
theorem dX0_needBlock_16 : decode cX0_needBlock 16 = .ok (.iconst 1, 1) := by decide +kernel
theorem dX0_needBlock_17 : decode cX0_needBlock 17 = .ok (.if_icmp .eq 13, 3) := by decide +kernel
theorem dX0_needBlock_20 : decode cX0_needBlock 20 = .ok (.new 65, 3) := by decide +kernel
theorem dX0_needBlock_23 : decode cX0_needBlock 23 = .ok (.dup, 1) := by decide +kernel
theorem dX0_needBlock_24 : decode cX0_needBlock 24 = .ok (.ldc 166, 2) := by decide +kernel
theorem dX0_needBlock_26 : decode cX0_needBlock 26 = .ok (.invokespecial 69, 3) := by decide +kernel
theorem dX0_needBlock_29 : decode cX0_needBlock 29 = .ok (.athrow, 1) := by decide +kernel
theorem dX0_needBlock_30 : decode cX0_needBlock 30 = .ok (.iload_n 2, 1) := by decide +kernel
theorem dX0_needBlock_31 : decode cX0_needBlock 31 = .ok (.ireturn, 1) := by decide +kernel
set_option maxRecDepth 20000 in
theorem ggX0_linkSlot_X0_needBlock : GoodIn wsX0_linkSlot wsX0_needBlock := goodIn_ca (goodIn_r _ [7, 1, 2, 8, 9, 10, 6, 11, 12, 13, 14, 15, 16, 21, 22, 23, 24, 25, 26, 27, 28, 29, 30] (by decide +kernel) (by decide +kernel)) (goodIn_sub (fun _ h => List.mem_cons_of_mem _ (List.mem_append_right _ h)) (by decide +kernel))
set_option maxRecDepth 20000 in
theorem gX0_linkSlot_X0_needBlock : GoodIn wsX0_linkSlot (wsV RX0 168 RX0 yX0_needBlock wsX0_needBlock) := goodIn_app (goodIn_of _ (by decide +kernel)) ggX0_linkSlot_X0_needBlock
set_option maxRecDepth 20000 in
theorem ggX0_linkSlot_X0_linksAt : GoodIn wsX0_linkSlot wsX0_linksAt := goodIn_r _ [20, 16, 21, 22, 23, 24, 25, 26, 27, 28, 29, 30] (by decide +kernel) (by decide +kernel)
set_option maxRecDepth 20000 in
theorem gX0_linkSlot_X0_linksAt : GoodIn wsX0_linkSlot (wsV RX0 171 RX0 yX0_linksAt wsX0_linksAt) := goodIn_app (goodIn_of _ (by decide +kernel)) ggX0_linkSlot_X0_linksAt
theorem dX0_linkSlot_0 : decode cX0_linkSlot 0 = .ok (.aload_n 0, 1) := by decide +kernel
theorem dX0_linkSlot_1 : decode cX0_linkSlot 1 = .ok (.iload_n 1, 1) := by decide +kernel
theorem dX0_linkSlot_2 : decode cX0_linkSlot 2 = .ok (.invokevirtual 168, 3) := by decide +kernel
theorem dX0_linkSlot_5 : decode cX0_linkSlot 5 = .ok (.istore_n 3, 1) := by decide +kernel
theorem dX0_linkSlot_6 : decode cX0_linkSlot 6 = .ok (.iload_n 2, 1) := by decide +kernel
theorem dX0_linkSlot_7 : decode cX0_linkSlot 7 = .ok (.ifCond .lt 12, 3) := by decide +kernel
theorem dX0_linkSlot_10 : decode cX0_linkSlot 10 = .ok (.iload_n 2, 1) := by decide +kernel
theorem dX0_linkSlot_11 : decode cX0_linkSlot 11 = .ok (.aload_n 0, 1) := by decide +kernel
theorem dX0_linkSlot_12 : decode cX0_linkSlot 12 = .ok (.iload_n 3, 1) := by decide +kernel
theorem dX0_linkSlot_13 : decode cX0_linkSlot 13 = .ok (.invokevirtual 171, 3) := by decide +kernel
theorem dX0_linkSlot_16 : decode cX0_linkSlot 16 = .ok (.if_icmp .lt 13, 3) := by decide +kernel
theorem dX0_linkSlot_19 : decode cX0_linkSlot 19 = .ok (.new 65, 3) := by decide +kernel
theorem dX0_linkSlot_22 : decode cX0_linkSlot 22 = .ok (.dup, 1) := by decide +kernel
theorem dX0_linkSlot_23 : decode cX0_linkSlot 23 = .ok (.ldc 174, 2) := by decide +kernel
theorem dX0_linkSlot_25 : decode cX0_linkSlot 25 = .ok (.invokespecial 69, 3) := by decide +kernel
theorem dX0_linkSlot_28 : decode cX0_linkSlot 28 = .ok (.athrow, 1) := by decide +kernel
theorem dX0_linkSlot_29 : decode cX0_linkSlot 29 = .ok (.iload_n 3, 1) := by decide +kernel
theorem dX0_linkSlot_30 : decode cX0_linkSlot 30 = .ok (.iconst 3, 1) := by decide +kernel
theorem dX0_linkSlot_31 : decode cX0_linkSlot 31 = .ok (.iadd, 1) := by decide +kernel
theorem dX0_linkSlot_32 : decode cX0_linkSlot 32 = .ok (.iload_n 2, 1) := by decide +kernel
theorem dX0_linkSlot_33 : decode cX0_linkSlot 33 = .ok (.iadd, 1) := by decide +kernel
theorem dX0_linkSlot_34 : decode cX0_linkSlot 34 = .ok (.ireturn, 1) := by decide +kernel
set_option maxRecDepth 20000 in
theorem ggX0_valueSlot_X0_needBlock : GoodIn wsX0_valueSlot wsX0_needBlock := goodIn_ca (goodIn_r _ [7, 1, 2, 8, 9, 10, 6, 11, 12, 13, 14, 15, 16, 25, 26, 27, 28, 29, 30, 31, 32, 33, 34] (by decide +kernel) (by decide +kernel)) (goodIn_sub (fun _ h => List.mem_cons_of_mem _ (List.mem_append_right _ h)) (by decide +kernel))
set_option maxRecDepth 20000 in
theorem gX0_valueSlot_X0_needBlock : GoodIn wsX0_valueSlot (wsV RX0 168 RX0 yX0_needBlock wsX0_needBlock) := goodIn_app (goodIn_of _ (by decide +kernel)) ggX0_valueSlot_X0_needBlock
set_option maxRecDepth 20000 in
theorem ggX0_valueSlot_X0_valuesAt : GoodIn wsX0_valueSlot wsX0_valuesAt := goodIn_r _ [20, 16, 25, 26, 27, 28, 29, 30, 31, 32, 33, 34] (by decide +kernel) (by decide +kernel)
set_option maxRecDepth 20000 in
theorem gX0_valueSlot_X0_valuesAt : GoodIn wsX0_valueSlot (wsV RX0 176 RX0 yX0_valuesAt wsX0_valuesAt) := goodIn_app (goodIn_of _ (by decide +kernel)) ggX0_valueSlot_X0_valuesAt
set_option maxRecDepth 20000 in
theorem ggX0_valueSlot_X0_linksAt : GoodIn wsX0_valueSlot wsX0_linksAt := goodIn_r _ [24, 16, 25, 26, 27, 28, 29, 30, 31, 32, 33, 34] (by decide +kernel) (by decide +kernel)
set_option maxRecDepth 20000 in
theorem gX0_valueSlot_X0_linksAt : GoodIn wsX0_valueSlot (wsV RX0 171 RX0 yX0_linksAt wsX0_linksAt) := goodIn_app (goodIn_of _ (by decide +kernel)) ggX0_valueSlot_X0_linksAt
theorem dX0_valueSlot_0 : decode cX0_valueSlot 0 = .ok (.aload_n 0, 1) := by decide +kernel
theorem dX0_valueSlot_1 : decode cX0_valueSlot 1 = .ok (.iload_n 1, 1) := by decide +kernel
theorem dX0_valueSlot_2 : decode cX0_valueSlot 2 = .ok (.invokevirtual 168, 3) := by decide +kernel
theorem dX0_valueSlot_5 : decode cX0_valueSlot 5 = .ok (.istore_n 3, 1) := by decide +kernel
theorem dX0_valueSlot_6 : decode cX0_valueSlot 6 = .ok (.iload_n 2, 1) := by decide +kernel
theorem dX0_valueSlot_7 : decode cX0_valueSlot 7 = .ok (.ifCond .lt 12, 3) := by decide +kernel
theorem dX0_valueSlot_10 : decode cX0_valueSlot 10 = .ok (.iload_n 2, 1) := by decide +kernel
theorem dX0_valueSlot_11 : decode cX0_valueSlot 11 = .ok (.aload_n 0, 1) := by decide +kernel
theorem dX0_valueSlot_12 : decode cX0_valueSlot 12 = .ok (.iload_n 3, 1) := by decide +kernel
theorem dX0_valueSlot_13 : decode cX0_valueSlot 13 = .ok (.invokevirtual 176, 3) := by decide +kernel
theorem dX0_valueSlot_16 : decode cX0_valueSlot 16 = .ok (.if_icmp .lt 13, 3) := by decide +kernel
theorem dX0_valueSlot_19 : decode cX0_valueSlot 19 = .ok (.new 65, 3) := by decide +kernel
theorem dX0_valueSlot_22 : decode cX0_valueSlot 22 = .ok (.dup, 1) := by decide +kernel
theorem dX0_valueSlot_23 : decode cX0_valueSlot 23 = .ok (.ldc 179, 2) := by decide +kernel
theorem dX0_valueSlot_25 : decode cX0_valueSlot 25 = .ok (.invokespecial 69, 3) := by decide +kernel
theorem dX0_valueSlot_28 : decode cX0_valueSlot 28 = .ok (.athrow, 1) := by decide +kernel
theorem dX0_valueSlot_29 : decode cX0_valueSlot 29 = .ok (.iload_n 3, 1) := by decide +kernel
theorem dX0_valueSlot_30 : decode cX0_valueSlot 30 = .ok (.iconst 3, 1) := by decide +kernel
theorem dX0_valueSlot_31 : decode cX0_valueSlot 31 = .ok (.iadd, 1) := by decide +kernel
theorem dX0_valueSlot_32 : decode cX0_valueSlot 32 = .ok (.aload_n 0, 1) := by decide +kernel
theorem dX0_valueSlot_33 : decode cX0_valueSlot 33 = .ok (.iload_n 3, 1) := by decide +kernel
theorem dX0_valueSlot_34 : decode cX0_valueSlot 34 = .ok (.invokevirtual 171, 3) := by decide +kernel
theorem dX0_valueSlot_37 : decode cX0_valueSlot 37 = .ok (.iadd, 1) := by decide +kernel
theorem dX0_valueSlot_38 : decode cX0_valueSlot 38 = .ok (.iconst 2, 1) := by decide +kernel
theorem dX0_valueSlot_39 : decode cX0_valueSlot 39 = .ok (.iload_n 2, 1) := by decide +kernel
theorem dX0_valueSlot_40 : decode cX0_valueSlot 40 = .ok (.imul, 1) := by decide +kernel
theorem dX0_valueSlot_41 : decode cX0_valueSlot 41 = .ok (.iadd, 1) := by decide +kernel
theorem dX0_valueSlot_42 : decode cX0_valueSlot 42 = .ok (.ireturn, 1) := by decide +kernel
set_option maxRecDepth 20000 in
theorem ggX0_plainSlot_X0_needBlock : GoodIn wsX0_plainSlot wsX0_needBlock := goodIn_ca (goodIn_r _ [7, 1, 2, 8, 9, 10, 6, 11, 12, 13, 14, 15, 16, 29, 30, 31, 32, 33, 34, 35, 36, 37, 38] (by decide +kernel) (by decide +kernel)) (goodIn_sub (fun _ h => List.mem_cons_of_mem _ (List.mem_append_right _ h)) (by decide +kernel))
set_option maxRecDepth 20000 in
theorem gX0_plainSlot_X0_needBlock : GoodIn wsX0_plainSlot (wsV RX0 168 RX0 yX0_needBlock wsX0_needBlock) := goodIn_app (goodIn_of _ (by decide +kernel)) ggX0_plainSlot_X0_needBlock
set_option maxRecDepth 20000 in
theorem ggX0_plainSlot_X0_linksAt : GoodIn wsX0_plainSlot wsX0_linksAt := goodIn_r _ [20, 16, 29, 30, 31, 32, 33, 34, 35, 36, 37, 38] (by decide +kernel) (by decide +kernel)
set_option maxRecDepth 20000 in
theorem gX0_plainSlot_X0_linksAt : GoodIn wsX0_plainSlot (wsV RX0 171 RX0 yX0_linksAt wsX0_linksAt) := goodIn_app (goodIn_of _ (by decide +kernel)) ggX0_plainSlot_X0_linksAt
set_option maxRecDepth 20000 in
theorem ggX0_plainSlot_X0_valuesAt : GoodIn wsX0_plainSlot wsX0_valuesAt := goodIn_r _ [24, 16, 29, 30, 31, 32, 33, 34, 35, 36, 37, 38] (by decide +kernel) (by decide +kernel)
set_option maxRecDepth 20000 in
theorem gX0_plainSlot_X0_valuesAt : GoodIn wsX0_plainSlot (wsV RX0 176 RX0 yX0_valuesAt wsX0_valuesAt) := goodIn_app (goodIn_of _ (by decide +kernel)) ggX0_plainSlot_X0_valuesAt
set_option maxRecDepth 20000 in
theorem ggX0_plainSlot_X0_sizeAt : GoodIn wsX0_plainSlot wsX0_sizeAt := goodIn_r _ [28, 16, 29, 30, 31, 32, 33, 34, 35, 36, 37, 38] (by decide +kernel) (by decide +kernel)
set_option maxRecDepth 20000 in
theorem gX0_plainSlot_X0_sizeAt : GoodIn wsX0_plainSlot (wsV RX0 181 RX0 yX0_sizeAt wsX0_sizeAt) := goodIn_app (goodIn_of _ (by decide +kernel)) ggX0_plainSlot_X0_sizeAt
theorem dX0_plainSlot_0 : decode cX0_plainSlot 0 = .ok (.aload_n 0, 1) := by decide +kernel
theorem dX0_plainSlot_1 : decode cX0_plainSlot 1 = .ok (.iload_n 1, 1) := by decide +kernel
theorem dX0_plainSlot_2 : decode cX0_plainSlot 2 = .ok (.invokevirtual 168, 3) := by decide +kernel
theorem dX0_plainSlot_5 : decode cX0_plainSlot 5 = .ok (.istore_n 3, 1) := by decide +kernel
theorem dX0_plainSlot_6 : decode cX0_plainSlot 6 = .ok (.iconst 3, 1) := by decide +kernel
theorem dX0_plainSlot_7 : decode cX0_plainSlot 7 = .ok (.aload_n 0, 1) := by decide +kernel
theorem dX0_plainSlot_8 : decode cX0_plainSlot 8 = .ok (.iload_n 3, 1) := by decide +kernel
theorem dX0_plainSlot_9 : decode cX0_plainSlot 9 = .ok (.invokevirtual 171, 3) := by decide +kernel
theorem dX0_plainSlot_12 : decode cX0_plainSlot 12 = .ok (.iadd, 1) := by decide +kernel
theorem dX0_plainSlot_13 : decode cX0_plainSlot 13 = .ok (.iconst 2, 1) := by decide +kernel
theorem dX0_plainSlot_14 : decode cX0_plainSlot 14 = .ok (.aload_n 0, 1) := by decide +kernel
theorem dX0_plainSlot_15 : decode cX0_plainSlot 15 = .ok (.iload_n 3, 1) := by decide +kernel
theorem dX0_plainSlot_16 : decode cX0_plainSlot 16 = .ok (.invokevirtual 176, 3) := by decide +kernel
theorem dX0_plainSlot_19 : decode cX0_plainSlot 19 = .ok (.imul, 1) := by decide +kernel
theorem dX0_plainSlot_20 : decode cX0_plainSlot 20 = .ok (.iadd, 1) := by decide +kernel
theorem dX0_plainSlot_21 : decode cX0_plainSlot 21 = .ok (.istore 4, 2) := by decide +kernel
theorem dX0_plainSlot_23 : decode cX0_plainSlot 23 = .ok (.iload_n 2, 1) := by decide +kernel
theorem dX0_plainSlot_24 : decode cX0_plainSlot 24 = .ok (.ifCond .lt 15, 3) := by decide +kernel
theorem dX0_plainSlot_27 : decode cX0_plainSlot 27 = .ok (.iload_n 2, 1) := by decide +kernel
theorem dX0_plainSlot_28 : decode cX0_plainSlot 28 = .ok (.aload_n 0, 1) := by decide +kernel
theorem dX0_plainSlot_29 : decode cX0_plainSlot 29 = .ok (.iload_n 3, 1) := by decide +kernel
theorem dX0_plainSlot_30 : decode cX0_plainSlot 30 = .ok (.invokevirtual 181, 3) := by decide +kernel
theorem dX0_plainSlot_33 : decode cX0_plainSlot 33 = .ok (.iload 4, 2) := by decide +kernel
theorem dX0_plainSlot_35 : decode cX0_plainSlot 35 = .ok (.isub, 1) := by decide +kernel
theorem dX0_plainSlot_36 : decode cX0_plainSlot 36 = .ok (.if_icmp .lt 13, 3) := by decide +kernel
theorem dX0_plainSlot_39 : decode cX0_plainSlot 39 = .ok (.new 65, 3) := by decide +kernel
theorem dX0_plainSlot_42 : decode cX0_plainSlot 42 = .ok (.dup, 1) := by decide +kernel
theorem dX0_plainSlot_43 : decode cX0_plainSlot 43 = .ok (.ldc 184, 2) := by decide +kernel
theorem dX0_plainSlot_45 : decode cX0_plainSlot 45 = .ok (.invokespecial 69, 3) := by decide +kernel
theorem dX0_plainSlot_48 : decode cX0_plainSlot 48 = .ok (.athrow, 1) := by decide +kernel
theorem dX0_plainSlot_49 : decode cX0_plainSlot 49 = .ok (.iload_n 3, 1) := by decide +kernel
theorem dX0_plainSlot_50 : decode cX0_plainSlot 50 = .ok (.iload 4, 2) := by decide +kernel
theorem dX0_plainSlot_52 : decode cX0_plainSlot 52 = .ok (.iadd, 1) := by decide +kernel
theorem dX0_plainSlot_53 : decode cX0_plainSlot 53 = .ok (.iload_n 2, 1) := by decide +kernel
theorem dX0_plainSlot_54 : decode cX0_plainSlot 54 = .ok (.iadd, 1) := by decide +kernel
theorem dX0_plainSlot_55 : decode cX0_plainSlot 55 = .ok (.ireturn, 1) := by decide +kernel
theorem dX0_shapeOf_0 : decode cX0_shapeOf 0 = .ok (.iload_n 0, 1) := by decide +kernel
theorem dX0_shapeOf_1 : decode cX0_shapeOf 1 = .ok (.iload_n 1, 1) := by decide +kernel
theorem dX0_shapeOf_2 : decode cX0_shapeOf 2 = .ok (.iconst 4, 1) := by decide +kernel
theorem dX0_shapeOf_3 : decode cX0_shapeOf 3 = .ok (.ishl, 1) := by decide +kernel
theorem dX0_shapeOf_4 : decode cX0_shapeOf 4 = .ok (.ior, 1) := by decide +kernel
theorem dX0_shapeOf_5 : decode cX0_shapeOf 5 = .ok (.iload_n 2, 1) := by decide +kernel
theorem dX0_shapeOf_6 : decode cX0_shapeOf 6 = .ok (.bipush 8, 2) := by decide +kernel
theorem dX0_shapeOf_8 : decode cX0_shapeOf 8 = .ok (.ishl, 1) := by decide +kernel
theorem dX0_shapeOf_9 : decode cX0_shapeOf 9 = .ok (.ior, 1) := by decide +kernel
theorem dX0_shapeOf_10 : decode cX0_shapeOf 10 = .ok (.iload_n 3, 1) := by decide +kernel
theorem dX0_shapeOf_11 : decode cX0_shapeOf 11 = .ok (.bipush 12, 2) := by decide +kernel
theorem dX0_shapeOf_13 : decode cX0_shapeOf 13 = .ok (.ishl, 1) := by decide +kernel
theorem dX0_shapeOf_14 : decode cX0_shapeOf 14 = .ok (.ior, 1) := by decide +kernel
theorem dX0_shapeOf_15 : decode cX0_shapeOf 15 = .ok (.ireturn, 1) := by decide +kernel
theorem dX0_kindAt_0 : decode cX0_kindAt 0 = .ok (.iload_n 1, 1) := by decide +kernel
theorem dX0_kindAt_1 : decode cX0_kindAt 1 = .ok (.iconst (-1), 1) := by decide +kernel
theorem dX0_kindAt_2 : decode cX0_kindAt 2 = .ok (.if_icmp .ne 7, 3) := by decide +kernel
theorem dX0_kindAt_5 : decode cX0_kindAt 5 = .ok (.iconst 0, 1) := by decide +kernel
theorem dX0_kindAt_6 : decode cX0_kindAt 6 = .ok (.goto 14, 3) := by decide +kernel
theorem dX0_kindAt_9 : decode cX0_kindAt 9 = .ok (.aload_n 0, 1) := by decide +kernel
theorem dX0_kindAt_10 : decode cX0_kindAt 10 = .ok (.getfield 23, 3) := by decide +kernel
theorem dX0_kindAt_13 : decode cX0_kindAt 13 = .ok (.iload_n 1, 1) := by decide +kernel
theorem dX0_kindAt_14 : decode cX0_kindAt 14 = .ok (.iconst 0, 1) := by decide +kernel
theorem dX0_kindAt_15 : decode cX0_kindAt 15 = .ok (.iadd, 1) := by decide +kernel
theorem dX0_kindAt_16 : decode cX0_kindAt 16 = .ok (.iaload, 1) := by decide +kernel
theorem dX0_kindAt_17 : decode cX0_kindAt 17 = .ok (.bipush 15, 2) := by decide +kernel
theorem dX0_kindAt_19 : decode cX0_kindAt 19 = .ok (.iand, 1) := by decide +kernel
theorem dX0_kindAt_20 : decode cX0_kindAt 20 = .ok (.ireturn, 1) := by decide +kernel
theorem dX0_linksAt_0 : decode cX0_linksAt 0 = .ok (.aload_n 0, 1) := by decide +kernel
theorem dX0_linksAt_1 : decode cX0_linksAt 1 = .ok (.getfield 23, 3) := by decide +kernel
theorem dX0_linksAt_4 : decode cX0_linksAt 4 = .ok (.iload_n 1, 1) := by decide +kernel
theorem dX0_linksAt_5 : decode cX0_linksAt 5 = .ok (.iconst 0, 1) := by decide +kernel
theorem dX0_linksAt_6 : decode cX0_linksAt 6 = .ok (.iadd, 1) := by decide +kernel
theorem dX0_linksAt_7 : decode cX0_linksAt 7 = .ok (.iaload, 1) := by decide +kernel
theorem dX0_linksAt_8 : decode cX0_linksAt 8 = .ok (.iconst 4, 1) := by decide +kernel
theorem dX0_linksAt_9 : decode cX0_linksAt 9 = .ok (.ishr, 1) := by decide +kernel
theorem dX0_linksAt_10 : decode cX0_linksAt 10 = .ok (.bipush 15, 2) := by decide +kernel
theorem dX0_linksAt_12 : decode cX0_linksAt 12 = .ok (.iand, 1) := by decide +kernel
theorem dX0_linksAt_13 : decode cX0_linksAt 13 = .ok (.ireturn, 1) := by decide +kernel
theorem dX0_valuesAt_0 : decode cX0_valuesAt 0 = .ok (.aload_n 0, 1) := by decide +kernel
theorem dX0_valuesAt_1 : decode cX0_valuesAt 1 = .ok (.getfield 23, 3) := by decide +kernel
theorem dX0_valuesAt_4 : decode cX0_valuesAt 4 = .ok (.iload_n 1, 1) := by decide +kernel
theorem dX0_valuesAt_5 : decode cX0_valuesAt 5 = .ok (.iconst 0, 1) := by decide +kernel
theorem dX0_valuesAt_6 : decode cX0_valuesAt 6 = .ok (.iadd, 1) := by decide +kernel
theorem dX0_valuesAt_7 : decode cX0_valuesAt 7 = .ok (.iaload, 1) := by decide +kernel
theorem dX0_valuesAt_8 : decode cX0_valuesAt 8 = .ok (.bipush 8, 2) := by decide +kernel
theorem dX0_valuesAt_10 : decode cX0_valuesAt 10 = .ok (.ishr, 1) := by decide +kernel
theorem dX0_valuesAt_11 : decode cX0_valuesAt 11 = .ok (.bipush 15, 2) := by decide +kernel
theorem dX0_valuesAt_13 : decode cX0_valuesAt 13 = .ok (.iand, 1) := by decide +kernel
theorem dX0_valuesAt_14 : decode cX0_valuesAt 14 = .ok (.ireturn, 1) := by decide +kernel
theorem dX0_sizeAt_0 : decode cX0_sizeAt 0 = .ok (.aload_n 0, 1) := by decide +kernel
theorem dX0_sizeAt_1 : decode cX0_sizeAt 1 = .ok (.getfield 23, 3) := by decide +kernel
theorem dX0_sizeAt_4 : decode cX0_sizeAt 4 = .ok (.iload_n 1, 1) := by decide +kernel
theorem dX0_sizeAt_5 : decode cX0_sizeAt 5 = .ok (.iconst 0, 1) := by decide +kernel
theorem dX0_sizeAt_6 : decode cX0_sizeAt 6 = .ok (.iadd, 1) := by decide +kernel
theorem dX0_sizeAt_7 : decode cX0_sizeAt 7 = .ok (.iaload, 1) := by decide +kernel
theorem dX0_sizeAt_8 : decode cX0_sizeAt 8 = .ok (.bipush 12, 2) := by decide +kernel
theorem dX0_sizeAt_10 : decode cX0_sizeAt 10 = .ok (.ishr, 1) := by decide +kernel
theorem dX0_sizeAt_11 : decode cX0_sizeAt 11 = .ok (.ireturn, 1) := by decide +kernel
theorem dX0_isReference_0 : decode cX0_isReference 0 = .ok (.iload_n 0, 1) := by decide +kernel
theorem dX0_isReference_1 : decode cX0_isReference 1 = .ok (.bipush 16, 2) := by decide +kernel
theorem dX0_isReference_3 : decode cX0_isReference 3 = .ok (.iushr, 1) := by decide +kernel
theorem dX0_isReference_4 : decode cX0_isReference 4 = .ok (.ldc 186, 2) := by decide +kernel
theorem dX0_isReference_6 : decode cX0_isReference 6 = .ok (.if_icmp .ne 7, 3) := by decide +kernel
theorem dX0_isReference_9 : decode cX0_isReference 9 = .ok (.iconst 1, 1) := by decide +kernel
theorem dX0_isReference_10 : decode cX0_isReference 10 = .ok (.goto 4, 3) := by decide +kernel
theorem dX0_isReference_13 : decode cX0_isReference 13 = .ok (.iconst 0, 1) := by decide +kernel
theorem dX0_isReference_14 : decode cX0_isReference 14 = .ok (.ireturn, 1) := by decide +kernel
set_option maxRecDepth 20000 in
theorem ggX0_lengthAt_X0_linksAt : GoodIn wsX0_lengthAt wsX0_linksAt := goodIn_r _ [6, 1, 7, 8, 9, 10, 11, 12, 13, 14, 15, 16] (by decide +kernel) (by decide +kernel)
set_option maxRecDepth 20000 in
theorem gX0_lengthAt_X0_linksAt : GoodIn wsX0_lengthAt (wsV RX0 171 RX0 yX0_linksAt wsX0_linksAt) := goodIn_app (goodIn_of _ (by decide +kernel)) ggX0_lengthAt_X0_linksAt
theorem dX0_lengthAt_0 : decode cX0_lengthAt 0 = .ok (.aload_n 0, 1) := by decide +kernel
theorem dX0_lengthAt_1 : decode cX0_lengthAt 1 = .ok (.getfield 23, 3) := by decide +kernel
theorem dX0_lengthAt_4 : decode cX0_lengthAt 4 = .ok (.iload_n 1, 1) := by decide +kernel
theorem dX0_lengthAt_5 : decode cX0_lengthAt 5 = .ok (.iconst 3, 1) := by decide +kernel
theorem dX0_lengthAt_6 : decode cX0_lengthAt 6 = .ok (.iadd, 1) := by decide +kernel
theorem dX0_lengthAt_7 : decode cX0_lengthAt 7 = .ok (.aload_n 0, 1) := by decide +kernel
theorem dX0_lengthAt_8 : decode cX0_lengthAt 8 = .ok (.iload_n 1, 1) := by decide +kernel
theorem dX0_lengthAt_9 : decode cX0_lengthAt 9 = .ok (.invokevirtual 171, 3) := by decide +kernel
theorem dX0_lengthAt_12 : decode cX0_lengthAt 12 = .ok (.iadd, 1) := by decide +kernel
theorem dX0_lengthAt_13 : decode cX0_lengthAt 13 = .ok (.iaload, 1) := by decide +kernel
theorem dX0_lengthAt_14 : decode cX0_lengthAt 14 = .ok (.ireturn, 1) := by decide +kernel
set_option maxRecDepth 20000 in
theorem ggX0_putLength_X0_linksAt : GoodIn wsX0_putLength wsX0_linksAt := goodIn_r _ [6, 1, 7, 8, 9, 10, 11, 12, 13, 14, 15, 16] (by decide +kernel) (by decide +kernel)
set_option maxRecDepth 20000 in
theorem gX0_putLength_X0_linksAt : GoodIn wsX0_putLength (wsV RX0 171 RX0 yX0_linksAt wsX0_linksAt) := goodIn_app (goodIn_of _ (by decide +kernel)) ggX0_putLength_X0_linksAt
theorem dX0_putLength_0 : decode cX0_putLength 0 = .ok (.aload_n 0, 1) := by decide +kernel
theorem dX0_putLength_1 : decode cX0_putLength 1 = .ok (.getfield 23, 3) := by decide +kernel
theorem dX0_putLength_4 : decode cX0_putLength 4 = .ok (.iload_n 1, 1) := by decide +kernel
theorem dX0_putLength_5 : decode cX0_putLength 5 = .ok (.iconst 3, 1) := by decide +kernel
theorem dX0_putLength_6 : decode cX0_putLength 6 = .ok (.iadd, 1) := by decide +kernel
theorem dX0_putLength_7 : decode cX0_putLength 7 = .ok (.aload_n 0, 1) := by decide +kernel
theorem dX0_putLength_8 : decode cX0_putLength 8 = .ok (.iload_n 1, 1) := by decide +kernel
theorem dX0_putLength_9 : decode cX0_putLength 9 = .ok (.invokevirtual 171, 3) := by decide +kernel
theorem dX0_putLength_12 : decode cX0_putLength 12 = .ok (.iadd, 1) := by decide +kernel
theorem dX0_putLength_13 : decode cX0_putLength 13 = .ok (.iload_n 2, 1) := by decide +kernel
theorem dX0_putLength_14 : decode cX0_putLength 14 = .ok (.iastore, 1) := by decide +kernel
theorem dX0_putLength_15 : decode cX0_putLength 15 = .ok (.return_, 1) := by decide +kernel
set_option maxRecDepth 20000 in
theorem ggX0_lengthIn_X0_lengthAt : GoodIn wsX0_lengthIn wsX0_lengthAt := goodIn_r _ [6, 7, 8, 9, 10, 5, 11, 12, 13, 14, 15, 16, 17, 18, 19, 20, 21] (by decide +kernel) (by decide +kernel)
set_option maxRecDepth 20000 in
theorem gX0_lengthIn_X0_lengthAt : GoodIn wsX0_lengthIn (wsV RX0 187 RX0 yX0_lengthAt wsX0_lengthAt) := goodIn_app (goodIn_of _ (by decide +kernel)) ggX0_lengthIn_X0_lengthAt
theorem dX0_lengthIn_0 : decode cX0_lengthIn 0 = .ok (.aload_n 0, 1) := by decide +kernel
theorem dX0_lengthIn_1 : decode cX0_lengthIn 1 = .ok (.aload_n 0, 1) := by decide +kernel
theorem dX0_lengthIn_2 : decode cX0_lengthIn 2 = .ok (.getfield 30, 3) := by decide +kernel
theorem dX0_lengthIn_5 : decode cX0_lengthIn 5 = .ok (.iload_n 1, 1) := by decide +kernel
theorem dX0_lengthIn_6 : decode cX0_lengthIn 6 = .ok (.iaload, 1) := by decide +kernel
theorem dX0_lengthIn_7 : decode cX0_lengthIn 7 = .ok (.invokevirtual 187, 3) := by decide +kernel
theorem dX0_lengthIn_10 : decode cX0_lengthIn 10 = .ok (.ireturn, 1) := by decide +kernel
set_option maxRecDepth 20000 in
theorem ggX0_flatOf_X0_kindAt : GoodIn wsX0_flatOf wsX0_kindAt := goodIn_r _ [6, 1, 7, 8, 9, 10, 11, 12, 13, 14, 15, 16] (by decide +kernel) (by decide +kernel)
set_option maxRecDepth 20000 in
theorem gX0_flatOf_X0_kindAt : GoodIn wsX0_flatOf (wsV RX0 76 RX0 yX0_kindAt wsX0_kindAt) := goodIn_app (goodIn_of _ (by decide +kernel)) ggX0_flatOf_X0_kindAt
theorem dX0_flatOf_0 : decode cX0_flatOf 0 = .ok (.aload_n 0, 1) := by decide +kernel
theorem dX0_flatOf_1 : decode cX0_flatOf 1 = .ok (.iload_n 1, 1) := by decide +kernel
theorem dX0_flatOf_2 : decode cX0_flatOf 2 = .ok (.invokevirtual 76, 3) := by decide +kernel
theorem dX0_flatOf_5 : decode cX0_flatOf 5 = .ok (.iconst 4, 1) := by decide +kernel
theorem dX0_flatOf_6 : decode cX0_flatOf 6 = .ok (.if_icmp .ne 14, 3) := by decide +kernel
theorem dX0_flatOf_9 : decode cX0_flatOf 9 = .ok (.aload_n 0, 1) := by decide +kernel
theorem dX0_flatOf_10 : decode cX0_flatOf 10 = .ok (.getfield 23, 3) := by decide +kernel
theorem dX0_flatOf_13 : decode cX0_flatOf 13 = .ok (.iload_n 1, 1) := by decide +kernel
theorem dX0_flatOf_14 : decode cX0_flatOf 14 = .ok (.iconst 3, 1) := by decide +kernel
theorem dX0_flatOf_15 : decode cX0_flatOf 15 = .ok (.iadd, 1) := by decide +kernel
theorem dX0_flatOf_16 : decode cX0_flatOf 16 = .ok (.iaload, 1) := by decide +kernel
theorem dX0_flatOf_17 : decode cX0_flatOf 17 = .ok (.goto 4, 3) := by decide +kernel
theorem dX0_flatOf_20 : decode cX0_flatOf 20 = .ok (.iload_n 1, 1) := by decide +kernel
theorem dX0_flatOf_21 : decode cX0_flatOf 21 = .ok (.ireturn, 1) := by decide +kernel
theorem dX0_unitAt_0 : decode cX0_unitAt 0 = .ok (.aload_n 0, 1) := by decide +kernel
theorem dX0_unitAt_1 : decode cX0_unitAt 1 = .ok (.getfield 23, 3) := by decide +kernel
theorem dX0_unitAt_4 : decode cX0_unitAt 4 = .ok (.iload_n 1, 1) := by decide +kernel
theorem dX0_unitAt_5 : decode cX0_unitAt 5 = .ok (.iconst 4, 1) := by decide +kernel
theorem dX0_unitAt_6 : decode cX0_unitAt 6 = .ok (.iadd, 1) := by decide +kernel
theorem dX0_unitAt_7 : decode cX0_unitAt 7 = .ok (.iload_n 2, 1) := by decide +kernel
theorem dX0_unitAt_8 : decode cX0_unitAt 8 = .ok (.iconst 2, 1) := by decide +kernel
theorem dX0_unitAt_9 : decode cX0_unitAt 9 = .ok (.idiv, 1) := by decide +kernel
theorem dX0_unitAt_10 : decode cX0_unitAt 10 = .ok (.iadd, 1) := by decide +kernel
theorem dX0_unitAt_11 : decode cX0_unitAt 11 = .ok (.iaload, 1) := by decide +kernel
theorem dX0_unitAt_12 : decode cX0_unitAt 12 = .ok (.bipush 16, 2) := by decide +kernel
theorem dX0_unitAt_14 : decode cX0_unitAt 14 = .ok (.iload_n 2, 1) := by decide +kernel
theorem dX0_unitAt_15 : decode cX0_unitAt 15 = .ok (.iconst 2, 1) := by decide +kernel
theorem dX0_unitAt_16 : decode cX0_unitAt 16 = .ok (.irem, 1) := by decide +kernel
theorem dX0_unitAt_17 : decode cX0_unitAt 17 = .ok (.imul, 1) := by decide +kernel
theorem dX0_unitAt_18 : decode cX0_unitAt 18 = .ok (.iushr, 1) := by decide +kernel
theorem dX0_unitAt_19 : decode cX0_unitAt 19 = .ok (.ldc 107, 2) := by decide +kernel
theorem dX0_unitAt_21 : decode cX0_unitAt 21 = .ok (.iand, 1) := by decide +kernel
theorem dX0_unitAt_22 : decode cX0_unitAt 22 = .ok (.ireturn, 1) := by decide +kernel
theorem dX0_putUnit_0 : decode cX0_putUnit 0 = .ok (.aload_n 0, 1) := by decide +kernel
theorem dX0_putUnit_1 : decode cX0_putUnit 1 = .ok (.getfield 23, 3) := by decide +kernel
theorem dX0_putUnit_4 : decode cX0_putUnit 4 = .ok (.iload_n 1, 1) := by decide +kernel
theorem dX0_putUnit_5 : decode cX0_putUnit 5 = .ok (.iconst 4, 1) := by decide +kernel
theorem dX0_putUnit_6 : decode cX0_putUnit 6 = .ok (.iadd, 1) := by decide +kernel
theorem dX0_putUnit_7 : decode cX0_putUnit 7 = .ok (.iload_n 2, 1) := by decide +kernel
theorem dX0_putUnit_8 : decode cX0_putUnit 8 = .ok (.iconst 2, 1) := by decide +kernel
theorem dX0_putUnit_9 : decode cX0_putUnit 9 = .ok (.idiv, 1) := by decide +kernel
theorem dX0_putUnit_10 : decode cX0_putUnit 10 = .ok (.iadd, 1) := by decide +kernel
theorem dX0_putUnit_11 : decode cX0_putUnit 11 = .ok (.dup2, 1) := by decide +kernel
theorem dX0_putUnit_12 : decode cX0_putUnit 12 = .ok (.iaload, 1) := by decide +kernel
theorem dX0_putUnit_13 : decode cX0_putUnit 13 = .ok (.iload_n 3, 1) := by decide +kernel
theorem dX0_putUnit_14 : decode cX0_putUnit 14 = .ok (.bipush 16, 2) := by decide +kernel
theorem dX0_putUnit_16 : decode cX0_putUnit 16 = .ok (.iload_n 2, 1) := by decide +kernel
theorem dX0_putUnit_17 : decode cX0_putUnit 17 = .ok (.iconst 2, 1) := by decide +kernel
theorem dX0_putUnit_18 : decode cX0_putUnit 18 = .ok (.irem, 1) := by decide +kernel
theorem dX0_putUnit_19 : decode cX0_putUnit 19 = .ok (.imul, 1) := by decide +kernel
theorem dX0_putUnit_20 : decode cX0_putUnit 20 = .ok (.ishl, 1) := by decide +kernel
theorem dX0_putUnit_21 : decode cX0_putUnit 21 = .ok (.ior, 1) := by decide +kernel
theorem dX0_putUnit_22 : decode cX0_putUnit 22 = .ok (.iastore, 1) := by decide +kernel
theorem dX0_putUnit_23 : decode cX0_putUnit 23 = .ok (.return_, 1) := by decide +kernel
set_option maxRecDepth 20000 in
theorem ggX0_copyUnits_X0_unitAt : GoodIn wsX0_copyUnits wsX0_unitAt := goodIn_r _ [5, 6, 7, 12, 13, 14, 15, 16, 17, 18, 19, 20, 21] (by decide +kernel) (by decide +kernel)
set_option maxRecDepth 20000 in
theorem gX0_copyUnits_X0_unitAt : GoodIn wsX0_copyUnits (wsV RX0 143 RX0 yX0_unitAt wsX0_unitAt) := goodIn_app (goodIn_of _ (by decide +kernel)) ggX0_copyUnits_X0_unitAt
set_option maxRecDepth 20000 in
theorem ggX0_copyUnits_X0_putUnit : GoodIn wsX0_copyUnits wsX0_putUnit := goodIn_r _ [11, 6, 12, 13, 14, 15, 16, 17, 18, 19, 20, 21] (by decide +kernel) (by decide +kernel)
set_option maxRecDepth 20000 in
theorem gX0_copyUnits_X0_putUnit : GoodIn wsX0_copyUnits (wsV RX0 108 RX0 yX0_putUnit wsX0_putUnit) := goodIn_app (goodIn_of _ (by decide +kernel)) ggX0_copyUnits_X0_putUnit
theorem dX0_copyUnits_0 : decode cX0_copyUnits 0 = .ok (.iload_n 2, 1) := by decide +kernel
theorem dX0_copyUnits_1 : decode cX0_copyUnits 1 = .ok (.istore 6, 2) := by decide +kernel
theorem dX0_copyUnits_3 : decode cX0_copyUnits 3 = .ok (.iload 6, 2) := by decide +kernel
theorem dX0_copyUnits_5 : decode cX0_copyUnits 5 = .ok (.iload_n 3, 1) := by decide +kernel
theorem dX0_copyUnits_6 : decode cX0_copyUnits 6 = .ok (.if_icmp .ge 29, 3) := by decide +kernel
theorem dX0_copyUnits_9 : decode cX0_copyUnits 9 = .ok (.aload_n 0, 1) := by decide +kernel
theorem dX0_copyUnits_10 : decode cX0_copyUnits 10 = .ok (.iload 4, 2) := by decide +kernel
theorem dX0_copyUnits_12 : decode cX0_copyUnits 12 = .ok (.iload 5, 2) := by decide +kernel
theorem dX0_copyUnits_14 : decode cX0_copyUnits 14 = .ok (.iload 6, 2) := by decide +kernel
theorem dX0_copyUnits_16 : decode cX0_copyUnits 16 = .ok (.iadd, 1) := by decide +kernel
theorem dX0_copyUnits_17 : decode cX0_copyUnits 17 = .ok (.iload_n 2, 1) := by decide +kernel
theorem dX0_copyUnits_18 : decode cX0_copyUnits 18 = .ok (.isub, 1) := by decide +kernel
theorem dX0_copyUnits_19 : decode cX0_copyUnits 19 = .ok (.aload_n 0, 1) := by decide +kernel
theorem dX0_copyUnits_20 : decode cX0_copyUnits 20 = .ok (.iload_n 1, 1) := by decide +kernel
theorem dX0_copyUnits_21 : decode cX0_copyUnits 21 = .ok (.iload 6, 2) := by decide +kernel
theorem dX0_copyUnits_23 : decode cX0_copyUnits 23 = .ok (.invokevirtual 143, 3) := by decide +kernel
theorem dX0_copyUnits_26 : decode cX0_copyUnits 26 = .ok (.invokevirtual 108, 3) := by decide +kernel
theorem dX0_copyUnits_29 : decode cX0_copyUnits 29 = .ok (.iinc 6 1, 3) := by decide +kernel
theorem dX0_copyUnits_32 : decode cX0_copyUnits 32 = .ok (.goto (-29), 3) := by decide +kernel
theorem dX0_copyUnits_35 : decode cX0_copyUnits 35 = .ok (.return_, 1) := by decide +kernel
set_option maxRecDepth 20000 in
theorem ggX0_makeFlat_X0_make : GoodIn wsX0_makeFlat wsX0_make := goodIn_ca (goodIn_r _ [5, 6, 7, 8, 9, 10, 11, 12, 13, 14, 4, 15, 16, 17, 18, 19, 20, 21, 22, 23, 24, 25, 26, 27, 28, 29, 30, 31, 32, 33, 34, 35, 36, 37, 38, 39, 40, 41, 42, 43, 44, 45, 46, 47, 48, 49, 50, 51, 52, 53, 54, 55, 56, 57, 58, 59, 60, 61, 62, 63, 64, 65, 66, 67, 68, 69, 70, 71, 72, 73, 74, 75, 76, 77, 78, 79, 80, 81, 82, 83, 84, 85, 86, 87, 88, 89, 90, 91, 92, 93, 94, 95, 96, 97, 98, 99, 100, 101, 106, 107, 108, 109, 110, 111, 112, 113, 114, 115, 116, 117, 118, 119] (by decide +kernel) (by decide +kernel)) (goodIn_sub (fun _ h => List.mem_cons_of_mem _ (List.mem_append_right _ h)) (by decide +kernel))
set_option maxRecDepth 20000 in
theorem gX0_makeFlat_X0_make : GoodIn wsX0_makeFlat (wsV RX0 72 RX0 yX0_make wsX0_make) := goodIn_app (goodIn_of _ (by decide +kernel)) ggX0_makeFlat_X0_make
set_option maxRecDepth 20000 in
theorem ggX0_makeFlat_X0_putLength : GoodIn wsX0_makeFlat wsX0_putLength := goodIn_r _ [105, 8, 35, 36, 37, 4, 38, 106, 107, 108, 109, 110, 111, 112, 113, 114, 115] (by decide +kernel) (by decide +kernel)
set_option maxRecDepth 20000 in
theorem gX0_makeFlat_X0_putLength : GoodIn wsX0_makeFlat (wsV RX0 190 RX0 yX0_putLength wsX0_putLength) := goodIn_app (goodIn_of _ (by decide +kernel)) ggX0_makeFlat_X0_putLength
theorem dX0_makeFlat_0 : decode cX0_makeFlat 0 = .ok (.aload_n 0, 1) := by decide +kernel
theorem dX0_makeFlat_1 : decode cX0_makeFlat 1 = .ok (.iload_n 1, 1) := by decide +kernel
theorem dX0_makeFlat_2 : decode cX0_makeFlat 2 = .ok (.iconst 0, 1) := by decide +kernel
theorem dX0_makeFlat_3 : decode cX0_makeFlat 3 = .ok (.iconst 0, 1) := by decide +kernel
theorem dX0_makeFlat_4 : decode cX0_makeFlat 4 = .ok (.iconst 1, 1) := by decide +kernel
theorem dX0_makeFlat_5 : decode cX0_makeFlat 5 = .ok (.iload_n 2, 1) := by decide +kernel
theorem dX0_makeFlat_6 : decode cX0_makeFlat 6 = .ok (.iconst 1, 1) := by decide +kernel
theorem dX0_makeFlat_7 : decode cX0_makeFlat 7 = .ok (.iadd, 1) := by decide +kernel
theorem dX0_makeFlat_8 : decode cX0_makeFlat 8 = .ok (.iconst 2, 1) := by decide +kernel
theorem dX0_makeFlat_9 : decode cX0_makeFlat 9 = .ok (.idiv, 1) := by decide +kernel
theorem dX0_makeFlat_10 : decode cX0_makeFlat 10 = .ok (.iadd, 1) := by decide +kernel
theorem dX0_makeFlat_11 : decode cX0_makeFlat 11 = .ok (.invokevirtual 72, 3) := by decide +kernel
theorem dX0_makeFlat_14 : decode cX0_makeFlat 14 = .ok (.istore_n 3, 1) := by decide +kernel
theorem dX0_makeFlat_15 : decode cX0_makeFlat 15 = .ok (.aload_n 0, 1) := by decide +kernel
theorem dX0_makeFlat_16 : decode cX0_makeFlat 16 = .ok (.iload_n 3, 1) := by decide +kernel
theorem dX0_makeFlat_17 : decode cX0_makeFlat 17 = .ok (.iload_n 2, 1) := by decide +kernel
theorem dX0_makeFlat_18 : decode cX0_makeFlat 18 = .ok (.invokevirtual 190, 3) := by decide +kernel
theorem dX0_makeFlat_21 : decode cX0_makeFlat 21 = .ok (.iload_n 3, 1) := by decide +kernel
theorem dX0_makeFlat_22 : decode cX0_makeFlat 22 = .ok (.ireturn, 1) := by decide +kernel
set_option maxRecDepth 20000 in
theorem ggX0_makeFlatOfTwo_X0_lengthIn : GoodIn wsX0_makeFlatOfTwo wsX0_lengthIn := goodIn_r _ [6, 1, 7, 8, 9, 5, 10, 11, 12, 13, 14, 15, 131, 132, 133, 134, 135, 136, 137, 138, 139, 140] (by decide +kernel) (by decide +kernel)
set_option maxRecDepth 20000 in
theorem gX0_makeFlatOfTwo_X0_lengthIn : GoodIn wsX0_makeFlatOfTwo (wsV RX0 115 RX0 yX0_lengthIn wsX0_lengthIn) := goodIn_app (goodIn_of _ (by decide +kernel)) ggX0_makeFlatOfTwo_X0_lengthIn
set_option maxRecDepth 20000 in
theorem ggX0_makeFlatOfTwo_X0_makeFlat : GoodIn wsX0_makeFlatOfTwo wsX0_makeFlat := goodIn_ca (goodIn_r _ [19, 20, 21, 22, 5, 23, 24, 25, 11, 26, 27, 28, 29, 30, 31, 32, 33, 34, 35, 36, 37, 38, 39, 40, 41, 42, 1, 43, 44, 45, 46, 47, 48, 49, 50, 12, 13, 14, 15, 51, 52, 53, 54, 55, 56, 57, 58, 59, 60, 61, 62, 63, 64, 65, 66, 67, 68, 69, 70, 71, 72, 73, 74, 75, 76, 77, 78, 79, 80, 81, 82, 83, 84, 85, 86, 87, 88, 89, 90, 91, 92, 93, 94, 95, 96, 97, 98, 99, 100, 101, 102, 103, 104, 105, 106, 107, 108, 109, 110, 111, 112, 113, 114, 115, 116, 117, 131, 132, 133, 134, 135, 136, 137, 138, 139, 140, 141, 142, 143, 144] (by decide +kernel) (by decide +kernel)) (goodIn_sub (fun _ h => List.mem_cons_of_mem _ (List.mem_append_right _ h)) (by decide +kernel))
set_option maxRecDepth 20000 in
theorem gX0_makeFlatOfTwo_X0_makeFlat : GoodIn wsX0_makeFlatOfTwo (wsV RX0 104 RX0 yX0_makeFlat wsX0_makeFlat) := goodIn_app (goodIn_of _ (by decide +kernel)) ggX0_makeFlatOfTwo_X0_makeFlat
set_option maxRecDepth 20000 in
theorem ggX0_makeFlatOfTwo_X0_copyUnits : GoodIn wsX0_makeFlatOfTwo wsX0_copyUnits := goodIn_r _ [121, 122, 123, 124, 5, 125, 11, 126, 127, 128, 129, 130, 131, 132, 133, 134, 135, 136, 137, 138, 139, 140] (by decide +kernel) (by decide +kernel)
set_option maxRecDepth 20000 in
theorem gX0_makeFlatOfTwo_X0_copyUnits : GoodIn wsX0_makeFlatOfTwo (wsV RX0 137 RX0 yX0_copyUnits wsX0_copyUnits) := goodIn_app (goodIn_of _ (by decide +kernel)) ggX0_makeFlatOfTwo_X0_copyUnits
theorem dX0_makeFlatOfTwo_0 : decode cX0_makeFlatOfTwo 0 = .ok (.aload_n 0, 1) := by decide +kernel
theorem dX0_makeFlatOfTwo_1 : decode cX0_makeFlatOfTwo 1 = .ok (.iload_n 1, 1) := by decide +kernel
theorem dX0_makeFlatOfTwo_2 : decode cX0_makeFlatOfTwo 2 = .ok (.invokevirtual 115, 3) := by decide +kernel
theorem dX0_makeFlatOfTwo_5 : decode cX0_makeFlatOfTwo 5 = .ok (.istore_n 3, 1) := by decide +kernel
theorem dX0_makeFlatOfTwo_6 : decode cX0_makeFlatOfTwo 6 = .ok (.aload_n 0, 1) := by decide +kernel
theorem dX0_makeFlatOfTwo_7 : decode cX0_makeFlatOfTwo 7 = .ok (.iload_n 2, 1) := by decide +kernel
theorem dX0_makeFlatOfTwo_8 : decode cX0_makeFlatOfTwo 8 = .ok (.invokevirtual 115, 3) := by decide +kernel
theorem dX0_makeFlatOfTwo_11 : decode cX0_makeFlatOfTwo 11 = .ok (.istore 4, 2) := by decide +kernel
theorem dX0_makeFlatOfTwo_13 : decode cX0_makeFlatOfTwo 13 = .ok (.aload_n 0, 1) := by decide +kernel
theorem dX0_makeFlatOfTwo_14 : decode cX0_makeFlatOfTwo 14 = .ok (.iconst 2, 1) := by decide +kernel
theorem dX0_makeFlatOfTwo_15 : decode cX0_makeFlatOfTwo 15 = .ok (.iload_n 3, 1) := by decide +kernel
theorem dX0_makeFlatOfTwo_16 : decode cX0_makeFlatOfTwo 16 = .ok (.iload 4, 2) := by decide +kernel
theorem dX0_makeFlatOfTwo_18 : decode cX0_makeFlatOfTwo 18 = .ok (.iadd, 1) := by decide +kernel
theorem dX0_makeFlatOfTwo_19 : decode cX0_makeFlatOfTwo 19 = .ok (.invokevirtual 104, 3) := by decide +kernel
theorem dX0_makeFlatOfTwo_22 : decode cX0_makeFlatOfTwo 22 = .ok (.istore 5, 2) := by decide +kernel
theorem dX0_makeFlatOfTwo_24 : decode cX0_makeFlatOfTwo 24 = .ok (.aload_n 0, 1) := by decide +kernel
theorem dX0_makeFlatOfTwo_25 : decode cX0_makeFlatOfTwo 25 = .ok (.aload_n 0, 1) := by decide +kernel
theorem dX0_makeFlatOfTwo_26 : decode cX0_makeFlatOfTwo 26 = .ok (.getfield 30, 3) := by decide +kernel
theorem dX0_makeFlatOfTwo_29 : decode cX0_makeFlatOfTwo 29 = .ok (.iload_n 1, 1) := by decide +kernel
theorem dX0_makeFlatOfTwo_30 : decode cX0_makeFlatOfTwo 30 = .ok (.iaload, 1) := by decide +kernel
theorem dX0_makeFlatOfTwo_31 : decode cX0_makeFlatOfTwo 31 = .ok (.iconst 0, 1) := by decide +kernel
theorem dX0_makeFlatOfTwo_32 : decode cX0_makeFlatOfTwo 32 = .ok (.iload_n 3, 1) := by decide +kernel
theorem dX0_makeFlatOfTwo_33 : decode cX0_makeFlatOfTwo 33 = .ok (.iload 5, 2) := by decide +kernel
theorem dX0_makeFlatOfTwo_35 : decode cX0_makeFlatOfTwo 35 = .ok (.iconst 0, 1) := by decide +kernel
theorem dX0_makeFlatOfTwo_36 : decode cX0_makeFlatOfTwo 36 = .ok (.invokevirtual 137, 3) := by decide +kernel
theorem dX0_makeFlatOfTwo_39 : decode cX0_makeFlatOfTwo 39 = .ok (.aload_n 0, 1) := by decide +kernel
theorem dX0_makeFlatOfTwo_40 : decode cX0_makeFlatOfTwo 40 = .ok (.aload_n 0, 1) := by decide +kernel
theorem dX0_makeFlatOfTwo_41 : decode cX0_makeFlatOfTwo 41 = .ok (.getfield 30, 3) := by decide +kernel
theorem dX0_makeFlatOfTwo_44 : decode cX0_makeFlatOfTwo 44 = .ok (.iload_n 2, 1) := by decide +kernel
theorem dX0_makeFlatOfTwo_45 : decode cX0_makeFlatOfTwo 45 = .ok (.iaload, 1) := by decide +kernel
theorem dX0_makeFlatOfTwo_46 : decode cX0_makeFlatOfTwo 46 = .ok (.iconst 0, 1) := by decide +kernel
theorem dX0_makeFlatOfTwo_47 : decode cX0_makeFlatOfTwo 47 = .ok (.iload 4, 2) := by decide +kernel
theorem dX0_makeFlatOfTwo_49 : decode cX0_makeFlatOfTwo 49 = .ok (.iload 5, 2) := by decide +kernel
theorem dX0_makeFlatOfTwo_51 : decode cX0_makeFlatOfTwo 51 = .ok (.iload_n 3, 1) := by decide +kernel
theorem dX0_makeFlatOfTwo_52 : decode cX0_makeFlatOfTwo 52 = .ok (.invokevirtual 137, 3) := by decide +kernel
theorem dX0_makeFlatOfTwo_55 : decode cX0_makeFlatOfTwo 55 = .ok (.iload 5, 2) := by decide +kernel
theorem dX0_makeFlatOfTwo_57 : decode cX0_makeFlatOfTwo 57 = .ok (.ireturn, 1) := by decide +kernel
set_option maxRecDepth 20000 in
theorem ggX0_makeJoined_X0_make : GoodIn wsX0_makeJoined wsX0_make := goodIn_ca (goodIn_r _ [7, 8, 9, 1, 10, 11, 12, 13, 14, 15, 6, 16, 17, 18, 19, 20, 21, 22, 23, 24, 25, 26, 2, 27, 28, 29, 30, 31, 32, 33, 34, 35, 36, 37, 38, 39, 40, 41, 42, 43, 44, 45, 46, 47, 48, 49, 50, 51, 52, 53, 54, 55, 56, 57, 58, 59, 60, 61, 62, 63, 64, 65, 66, 67, 68, 69, 70, 71, 72, 73, 74, 75, 76, 77, 78, 79, 80, 81, 82, 83, 84, 85, 86, 87, 88, 89, 90, 91, 92, 93, 94, 95, 96, 97, 98, 99, 100, 101, 114, 115, 116, 117, 118, 119, 120, 121, 122, 123, 124, 125, 126, 127] (by decide +kernel) (by decide +kernel)) (goodIn_sub (fun _ h => List.mem_cons_of_mem _ (List.mem_append_right _ h)) (by decide +kernel))
set_option maxRecDepth 20000 in
theorem gX0_makeJoined_X0_make : GoodIn wsX0_makeJoined (wsV RX0 72 RX0 yX0_make wsX0_make) := goodIn_app (goodIn_of _ (by decide +kernel)) ggX0_makeJoined_X0_make
set_option maxRecDepth 20000 in
theorem ggX0_makeJoined_X0_lengthIn : GoodIn wsX0_makeJoined wsX0_lengthIn := goodIn_r _ [105, 2, 106, 107, 108, 6, 109, 1, 35, 36, 37, 38, 114, 115, 116, 117, 118, 119, 120, 121, 122, 123] (by decide +kernel) (by decide +kernel)
set_option maxRecDepth 20000 in
theorem gX0_makeJoined_X0_lengthIn : GoodIn wsX0_makeJoined (wsV RX0 115 RX0 yX0_lengthIn wsX0_lengthIn) := goodIn_app (goodIn_of _ (by decide +kernel)) ggX0_makeJoined_X0_lengthIn
set_option maxRecDepth 20000 in
theorem ggX0_makeJoined_X0_putLength : GoodIn wsX0_makeJoined wsX0_putLength := goodIn_r _ [113, 1, 35, 36, 37, 6, 38, 114, 115, 116, 117, 118, 119, 120, 121, 122, 123] (by decide +kernel) (by decide +kernel)
set_option maxRecDepth 20000 in
theorem gX0_makeJoined_X0_putLength : GoodIn wsX0_makeJoined (wsV RX0 190 RX0 yX0_putLength wsX0_putLength) := goodIn_app (goodIn_of _ (by decide +kernel)) ggX0_makeJoined_X0_putLength
theorem dX0_makeJoined_0 : decode cX0_makeJoined 0 = .ok (.aload_n 0, 1) := by decide +kernel
theorem dX0_makeJoined_1 : decode cX0_makeJoined 1 = .ok (.iconst 3, 1) := by decide +kernel
theorem dX0_makeJoined_2 : decode cX0_makeJoined 2 = .ok (.iconst 2, 1) := by decide +kernel
theorem dX0_makeJoined_3 : decode cX0_makeJoined 3 = .ok (.iconst 0, 1) := by decide +kernel
theorem dX0_makeJoined_4 : decode cX0_makeJoined 4 = .ok (.iconst 1, 1) := by decide +kernel
theorem dX0_makeJoined_5 : decode cX0_makeJoined 5 = .ok (.invokevirtual 72, 3) := by decide +kernel
theorem dX0_makeJoined_8 : decode cX0_makeJoined 8 = .ok (.istore_n 3, 1) := by decide +kernel
theorem dX0_makeJoined_9 : decode cX0_makeJoined 9 = .ok (.aload_n 0, 1) := by decide +kernel
theorem dX0_makeJoined_10 : decode cX0_makeJoined 10 = .ok (.iload_n 3, 1) := by decide +kernel
theorem dX0_makeJoined_11 : decode cX0_makeJoined 11 = .ok (.aload_n 0, 1) := by decide +kernel
theorem dX0_makeJoined_12 : decode cX0_makeJoined 12 = .ok (.iload_n 1, 1) := by decide +kernel
theorem dX0_makeJoined_13 : decode cX0_makeJoined 13 = .ok (.invokevirtual 115, 3) := by decide +kernel
theorem dX0_makeJoined_16 : decode cX0_makeJoined 16 = .ok (.aload_n 0, 1) := by decide +kernel
theorem dX0_makeJoined_17 : decode cX0_makeJoined 17 = .ok (.iload_n 2, 1) := by decide +kernel
theorem dX0_makeJoined_18 : decode cX0_makeJoined 18 = .ok (.invokevirtual 115, 3) := by decide +kernel
theorem dX0_makeJoined_21 : decode cX0_makeJoined 21 = .ok (.iadd, 1) := by decide +kernel
theorem dX0_makeJoined_22 : decode cX0_makeJoined 22 = .ok (.invokevirtual 190, 3) := by decide +kernel
theorem dX0_makeJoined_25 : decode cX0_makeJoined 25 = .ok (.aload_n 0, 1) := by decide +kernel
theorem dX0_makeJoined_26 : decode cX0_makeJoined 26 = .ok (.getfield 23, 3) := by decide +kernel
theorem dX0_makeJoined_29 : decode cX0_makeJoined 29 = .ok (.iload_n 3, 1) := by decide +kernel
theorem dX0_makeJoined_30 : decode cX0_makeJoined 30 = .ok (.iconst 3, 1) := by decide +kernel
theorem dX0_makeJoined_31 : decode cX0_makeJoined 31 = .ok (.iadd, 1) := by decide +kernel
theorem dX0_makeJoined_32 : decode cX0_makeJoined 32 = .ok (.aload_n 0, 1) := by decide +kernel
theorem dX0_makeJoined_33 : decode cX0_makeJoined 33 = .ok (.getfield 30, 3) := by decide +kernel
theorem dX0_makeJoined_36 : decode cX0_makeJoined 36 = .ok (.iload_n 1, 1) := by decide +kernel
theorem dX0_makeJoined_37 : decode cX0_makeJoined 37 = .ok (.iaload, 1) := by decide +kernel
theorem dX0_makeJoined_38 : decode cX0_makeJoined 38 = .ok (.iastore, 1) := by decide +kernel
theorem dX0_makeJoined_39 : decode cX0_makeJoined 39 = .ok (.aload_n 0, 1) := by decide +kernel
theorem dX0_makeJoined_40 : decode cX0_makeJoined 40 = .ok (.getfield 23, 3) := by decide +kernel
theorem dX0_makeJoined_43 : decode cX0_makeJoined 43 = .ok (.iload_n 3, 1) := by decide +kernel
theorem dX0_makeJoined_44 : decode cX0_makeJoined 44 = .ok (.iconst 4, 1) := by decide +kernel
theorem dX0_makeJoined_45 : decode cX0_makeJoined 45 = .ok (.iadd, 1) := by decide +kernel
theorem dX0_makeJoined_46 : decode cX0_makeJoined 46 = .ok (.aload_n 0, 1) := by decide +kernel
theorem dX0_makeJoined_47 : decode cX0_makeJoined 47 = .ok (.getfield 30, 3) := by decide +kernel
theorem dX0_makeJoined_50 : decode cX0_makeJoined 50 = .ok (.iload_n 2, 1) := by decide +kernel
theorem dX0_makeJoined_51 : decode cX0_makeJoined 51 = .ok (.iaload, 1) := by decide +kernel
theorem dX0_makeJoined_52 : decode cX0_makeJoined 52 = .ok (.iastore, 1) := by decide +kernel
theorem dX0_makeJoined_53 : decode cX0_makeJoined 53 = .ok (.iload_n 3, 1) := by decide +kernel
theorem dX0_makeJoined_54 : decode cX0_makeJoined 54 = .ok (.ireturn, 1) := by decide +kernel
set_option maxRecDepth 20000 in
theorem ggX0_goOver_X0_kindAt : GoodIn wsX0_goOver wsX0_kindAt := goodIn_r _ [7, 2, 144, 145, 146, 147, 148, 149, 150, 151, 152, 153] (by decide +kernel) (by decide +kernel)
set_option maxRecDepth 20000 in
theorem gX0_goOver_X0_kindAt : GoodIn wsX0_goOver (wsV RX0 76 RX0 yX0_kindAt wsX0_kindAt) := goodIn_app (goodIn_of _ (by decide +kernel)) ggX0_goOver_X0_kindAt
set_option maxRecDepth 20000 in
theorem ggX0_goOver_X0_lengthIn : GoodIn wsX0_goOver wsX0_lengthIn := goodIn_r _ [11, 1, 12, 13, 14, 6, 15, 2, 16, 17, 18, 19, 144, 145, 146, 147, 148, 149, 150, 151, 152, 153] (by decide +kernel) (by decide +kernel)
set_option maxRecDepth 20000 in
theorem gX0_goOver_X0_lengthIn : GoodIn wsX0_goOver (wsV RX0 115 RX0 yX0_lengthIn wsX0_lengthIn) := goodIn_app (goodIn_of _ (by decide +kernel)) ggX0_goOver_X0_lengthIn
set_option maxRecDepth 20000 in
theorem ggX0_goOver_X0_makeFlat : GoodIn wsX0_goOver wsX0_makeFlat := goodIn_ca (goodIn_r _ [23, 24, 25, 26, 6, 27, 28, 29, 2, 30, 31, 32, 33, 34, 35, 36, 37, 38, 39, 40, 41, 42, 43, 44, 45, 46, 1, 47, 48, 49, 50, 51, 52, 53, 54, 16, 17, 18, 19, 55, 56, 57, 58, 59, 60, 61, 62, 63, 64, 65, 66, 67, 68, 69, 70, 71, 72, 73, 74, 75, 76, 77, 78, 79, 80, 81, 82, 83, 84, 85, 86, 87, 88, 89, 90, 91, 92, 93, 94, 95, 96, 97, 98, 99, 100, 101, 102, 103, 104, 105, 106, 107, 108, 109, 110, 111, 112, 113, 114, 115, 116, 117, 118, 119, 120, 121, 144, 145, 146, 147, 148, 149, 150, 151, 152, 153, 154, 155, 156, 157] (by decide +kernel) (by decide +kernel)) (goodIn_sub (fun _ h => List.mem_cons_of_mem _ (List.mem_append_right _ h)) (by decide +kernel))
set_option maxRecDepth 20000 in
theorem gX0_goOver_X0_makeFlat : GoodIn wsX0_goOver (wsV RX0 104 RX0 yX0_makeFlat wsX0_makeFlat) := goodIn_app (goodIn_of _ (by decide +kernel)) ggX0_goOver_X0_makeFlat
set_option maxRecDepth 20000 in
theorem ggX0_goOver_X0_copyAllUnits : GoodIn wsX0_goOver wsX0_copyAllUnits := goodIn_r _ [125, 126, 2, 3, 4, 5, 6, 7, 127, 128, 129, 130, 12, 13, 14, 15, 16, 17, 18, 19, 131, 132, 133, 134, 135, 136, 137, 138, 139, 140, 141, 142, 143, 144, 145, 146, 147, 148, 149, 150, 151, 152, 153] (by decide +kernel) (by decide +kernel)
set_option maxRecDepth 20000 in
theorem gX0_goOver_X0_copyAllUnits : GoodIn wsX0_goOver (wsV RX0 194 RX0 yX0_copyAllUnits wsX0_copyAllUnits) := goodIn_app (goodIn_of _ (by decide +kernel)) ggX0_goOver_X0_copyAllUnits
set_option maxRecDepth 20000 in
theorem ggX0_goOver_X0_sizeAt : GoodIn wsX0_goOver wsX0_sizeAt := goodIn_r _ [70, 2, 144, 145, 146, 147, 148, 149, 150, 151, 152, 153] (by decide +kernel) (by decide +kernel)
set_option maxRecDepth 20000 in
theorem gX0_goOver_X0_sizeAt : GoodIn wsX0_goOver (wsV RX0 181 RX0 yX0_sizeAt wsX0_sizeAt) := goodIn_app (goodIn_of _ (by decide +kernel)) ggX0_goOver_X0_sizeAt
set_option maxRecDepth 20000 in
theorem ggX0_goOver_X0_shapeOf : GoodIn wsX0_goOver wsX0_shapeOf := goodIn_r _ [117] (by decide +kernel) (by decide +kernel)
set_option maxRecDepth 20000 in
theorem gX0_goOver_X0_shapeOf : GoodIn wsX0_goOver (va_wsS RX0 197 yX0_shapeOf wsX0_shapeOf) := goodIn_app (goodIn_of _ (by decide +kernel)) ggX0_goOver_X0_shapeOf
theorem dX0_goOver_0 : decode cX0_goOver 0 = .ok (.aload_n 0, 1) := by decide +kernel
theorem dX0_goOver_1 : decode cX0_goOver 1 = .ok (.aload_n 0, 1) := by decide +kernel
theorem dX0_goOver_2 : decode cX0_goOver 2 = .ok (.getfield 30, 3) := by decide +kernel
theorem dX0_goOver_5 : decode cX0_goOver 5 = .ok (.iload_n 1, 1) := by decide +kernel
theorem dX0_goOver_6 : decode cX0_goOver 6 = .ok (.iaload, 1) := by decide +kernel
theorem dX0_goOver_7 : decode cX0_goOver 7 = .ok (.invokevirtual 76, 3) := by decide +kernel
theorem dX0_goOver_10 : decode cX0_goOver 10 = .ok (.iconst 3, 1) := by decide +kernel
theorem dX0_goOver_11 : decode cX0_goOver 11 = .ok (.if_icmp .eq 4, 3) := by decide +kernel
theorem dX0_goOver_14 : decode cX0_goOver 14 = .ok (.return_, 1) := by decide +kernel
theorem dX0_goOver_15 : decode cX0_goOver 15 = .ok (.aload_n 0, 1) := by decide +kernel
theorem dX0_goOver_16 : decode cX0_goOver 16 = .ok (.iconst 2, 1) := by decide +kernel
theorem dX0_goOver_17 : decode cX0_goOver 17 = .ok (.aload_n 0, 1) := by decide +kernel
theorem dX0_goOver_18 : decode cX0_goOver 18 = .ok (.iload_n 1, 1) := by decide +kernel
theorem dX0_goOver_19 : decode cX0_goOver 19 = .ok (.invokevirtual 115, 3) := by decide +kernel
theorem dX0_goOver_22 : decode cX0_goOver 22 = .ok (.invokevirtual 104, 3) := by decide +kernel
theorem dX0_goOver_25 : decode cX0_goOver 25 = .ok (.istore_n 2, 1) := by decide +kernel
theorem dX0_goOver_26 : decode cX0_goOver 26 = .ok (.aload_n 0, 1) := by decide +kernel
theorem dX0_goOver_27 : decode cX0_goOver 27 = .ok (.getfield 30, 3) := by decide +kernel
theorem dX0_goOver_30 : decode cX0_goOver 30 = .ok (.iload_n 1, 1) := by decide +kernel
theorem dX0_goOver_31 : decode cX0_goOver 31 = .ok (.iaload, 1) := by decide +kernel
theorem dX0_goOver_32 : decode cX0_goOver 32 = .ok (.istore_n 3, 1) := by decide +kernel
theorem dX0_goOver_33 : decode cX0_goOver 33 = .ok (.aload_n 0, 1) := by decide +kernel
theorem dX0_goOver_34 : decode cX0_goOver 34 = .ok (.iload_n 3, 1) := by decide +kernel
theorem dX0_goOver_35 : decode cX0_goOver 35 = .ok (.iload_n 2, 1) := by decide +kernel
theorem dX0_goOver_36 : decode cX0_goOver 36 = .ok (.invokevirtual 194, 3) := by decide +kernel
theorem dX0_goOver_39 : decode cX0_goOver 39 = .ok (.aload_n 0, 1) := by decide +kernel
theorem dX0_goOver_40 : decode cX0_goOver 40 = .ok (.getfield 23, 3) := by decide +kernel
theorem dX0_goOver_43 : decode cX0_goOver 43 = .ok (.iload_n 3, 1) := by decide +kernel
theorem dX0_goOver_44 : decode cX0_goOver 44 = .ok (.iconst 0, 1) := by decide +kernel
theorem dX0_goOver_45 : decode cX0_goOver 45 = .ok (.iadd, 1) := by decide +kernel
theorem dX0_goOver_46 : decode cX0_goOver 46 = .ok (.iconst 4, 1) := by decide +kernel
theorem dX0_goOver_47 : decode cX0_goOver 47 = .ok (.iconst 2, 1) := by decide +kernel
theorem dX0_goOver_48 : decode cX0_goOver 48 = .ok (.iconst 0, 1) := by decide +kernel
theorem dX0_goOver_49 : decode cX0_goOver 49 = .ok (.aload_n 0, 1) := by decide +kernel
theorem dX0_goOver_50 : decode cX0_goOver 50 = .ok (.iload_n 3, 1) := by decide +kernel
theorem dX0_goOver_51 : decode cX0_goOver 51 = .ok (.invokevirtual 181, 3) := by decide +kernel
theorem dX0_goOver_54 : decode cX0_goOver 54 = .ok (.invokestatic 197, 3) := by decide +kernel
theorem dX0_goOver_57 : decode cX0_goOver 57 = .ok (.iastore, 1) := by decide +kernel
theorem dX0_goOver_58 : decode cX0_goOver 58 = .ok (.aload_n 0, 1) := by decide +kernel
theorem dX0_goOver_59 : decode cX0_goOver 59 = .ok (.getfield 23, 3) := by decide +kernel
theorem dX0_goOver_62 : decode cX0_goOver 62 = .ok (.iload_n 3, 1) := by decide +kernel
theorem dX0_goOver_63 : decode cX0_goOver 63 = .ok (.iconst 3, 1) := by decide +kernel
theorem dX0_goOver_64 : decode cX0_goOver 64 = .ok (.iadd, 1) := by decide +kernel
theorem dX0_goOver_65 : decode cX0_goOver 65 = .ok (.iload_n 2, 1) := by decide +kernel
theorem dX0_goOver_66 : decode cX0_goOver 66 = .ok (.iastore, 1) := by decide +kernel
theorem dX0_goOver_67 : decode cX0_goOver 67 = .ok (.aload_n 0, 1) := by decide +kernel
theorem dX0_goOver_68 : decode cX0_goOver 68 = .ok (.getfield 23, 3) := by decide +kernel
theorem dX0_goOver_71 : decode cX0_goOver 71 = .ok (.iload_n 3, 1) := by decide +kernel
theorem dX0_goOver_72 : decode cX0_goOver 72 = .ok (.iconst 4, 1) := by decide +kernel
theorem dX0_goOver_73 : decode cX0_goOver 73 = .ok (.iadd, 1) := by decide +kernel
theorem dX0_goOver_74 : decode cX0_goOver 74 = .ok (.iconst (-1), 1) := by decide +kernel
theorem dX0_goOver_75 : decode cX0_goOver 75 = .ok (.iastore, 1) := by decide +kernel
theorem dX0_goOver_76 : decode cX0_goOver 76 = .ok (.return_, 1) := by decide +kernel
set_option maxRecDepth 20000 in
theorem ggX0_copyAllUnits_X0_kindAt : GoodIn wsX0_copyAllUnits wsX0_kindAt := goodIn_r _ [7, 2, 33, 34, 35, 36, 37, 38, 39, 40, 41, 42] (by decide +kernel) (by decide +kernel)
set_option maxRecDepth 20000 in
theorem gX0_copyAllUnits_X0_kindAt : GoodIn wsX0_copyAllUnits (wsV RX0 76 RX0 yX0_kindAt wsX0_kindAt) := goodIn_app (goodIn_of _ (by decide +kernel)) ggX0_copyAllUnits_X0_kindAt
set_option maxRecDepth 20000 in
theorem ggX0_copyAllUnits_X0_flatOf : GoodIn wsX0_copyAllUnits wsX0_flatOf := goodIn_r _ [11, 2, 3, 4, 5, 6, 7, 33, 34, 35, 36, 37, 38, 39, 40, 41, 42] (by decide +kernel) (by decide +kernel)
set_option maxRecDepth 20000 in
theorem gX0_copyAllUnits_X0_flatOf : GoodIn wsX0_copyAllUnits (wsV RX0 134 RX0 yX0_flatOf wsX0_flatOf) := goodIn_app (goodIn_of _ (by decide +kernel)) ggX0_copyAllUnits_X0_flatOf
set_option maxRecDepth 20000 in
theorem ggX0_copyAllUnits_X0_lengthAt : GoodIn wsX0_copyAllUnits wsX0_lengthAt := goodIn_r _ [15, 2, 16, 17, 18, 6, 19, 33, 34, 35, 36, 37, 38, 39, 40, 41, 42] (by decide +kernel) (by decide +kernel)
set_option maxRecDepth 20000 in
theorem gX0_copyAllUnits_X0_lengthAt : GoodIn wsX0_copyAllUnits (wsV RX0 187 RX0 yX0_lengthAt wsX0_lengthAt) := goodIn_app (goodIn_of _ (by decide +kernel)) ggX0_copyAllUnits_X0_lengthAt
set_option maxRecDepth 20000 in
theorem ggX0_copyAllUnits_X0_copyUnits : GoodIn wsX0_copyAllUnits wsX0_copyUnits := goodIn_r _ [23, 24, 25, 26, 6, 27, 2, 28, 29, 30, 31, 32, 33, 34, 35, 36, 37, 38, 39, 40, 41, 42] (by decide +kernel) (by decide +kernel)
set_option maxRecDepth 20000 in
theorem gX0_copyAllUnits_X0_copyUnits : GoodIn wsX0_copyAllUnits (wsV RX0 137 RX0 yX0_copyUnits wsX0_copyUnits) := goodIn_app (goodIn_of _ (by decide +kernel)) ggX0_copyAllUnits_X0_copyUnits
theorem dX0_copyAllUnits_0 : decode cX0_copyAllUnits 0 = .ok (.iconst 0, 1) := by decide +kernel
theorem dX0_copyAllUnits_1 : decode cX0_copyAllUnits 1 = .ok (.istore_n 3, 1) := by decide +kernel
theorem dX0_copyAllUnits_2 : decode cX0_copyAllUnits 2 = .ok (.iconst 1, 1) := by decide +kernel
theorem dX0_copyAllUnits_3 : decode cX0_copyAllUnits 3 = .ok (.istore 4, 2) := by decide +kernel
theorem dX0_copyAllUnits_5 : decode cX0_copyAllUnits 5 = .ok (.aload_n 0, 1) := by decide +kernel
theorem dX0_copyAllUnits_6 : decode cX0_copyAllUnits 6 = .ok (.getfield 45, 3) := by decide +kernel
theorem dX0_copyAllUnits_9 : decode cX0_copyAllUnits 9 = .ok (.iconst 0, 1) := by decide +kernel
theorem dX0_copyAllUnits_10 : decode cX0_copyAllUnits 10 = .ok (.iload_n 1, 1) := by decide +kernel
theorem dX0_copyAllUnits_11 : decode cX0_copyAllUnits 11 = .ok (.iastore, 1) := by decide +kernel
theorem dX0_copyAllUnits_12 : decode cX0_copyAllUnits 12 = .ok (.sipush 8000, 3) := by decide +kernel
theorem dX0_copyAllUnits_15 : decode cX0_copyAllUnits 15 = .ok (.istore 5, 2) := by decide +kernel
theorem dX0_copyAllUnits_17 : decode cX0_copyAllUnits 17 = .ok (.iload 5, 2) := by decide +kernel
theorem dX0_copyAllUnits_19 : decode cX0_copyAllUnits 19 = .ok (.ifCond .le 114, 3) := by decide +kernel
theorem dX0_copyAllUnits_22 : decode cX0_copyAllUnits 22 = .ok (.iload 4, 2) := by decide +kernel
theorem dX0_copyAllUnits_24 : decode cX0_copyAllUnits 24 = .ok (.ifCond .le 109, 3) := by decide +kernel
theorem dX0_copyAllUnits_27 : decode cX0_copyAllUnits 27 = .ok (.iload 4, 2) := by decide +kernel
theorem dX0_copyAllUnits_29 : decode cX0_copyAllUnits 29 = .ok (.sipush 4000, 3) := by decide +kernel
theorem dX0_copyAllUnits_32 : decode cX0_copyAllUnits 32 = .ok (.if_icmp .ge 101, 3) := by decide +kernel
theorem dX0_copyAllUnits_35 : decode cX0_copyAllUnits 35 = .ok (.aload_n 0, 1) := by decide +kernel
theorem dX0_copyAllUnits_36 : decode cX0_copyAllUnits 36 = .ok (.getfield 45, 3) := by decide +kernel
theorem dX0_copyAllUnits_39 : decode cX0_copyAllUnits 39 = .ok (.iload 4, 2) := by decide +kernel
theorem dX0_copyAllUnits_41 : decode cX0_copyAllUnits 41 = .ok (.iconst 1, 1) := by decide +kernel
theorem dX0_copyAllUnits_42 : decode cX0_copyAllUnits 42 = .ok (.isub, 1) := by decide +kernel
theorem dX0_copyAllUnits_43 : decode cX0_copyAllUnits 43 = .ok (.iaload, 1) := by decide +kernel
theorem dX0_copyAllUnits_44 : decode cX0_copyAllUnits 44 = .ok (.istore 6, 2) := by decide +kernel
theorem dX0_copyAllUnits_46 : decode cX0_copyAllUnits 46 = .ok (.aload_n 0, 1) := by decide +kernel
theorem dX0_copyAllUnits_47 : decode cX0_copyAllUnits 47 = .ok (.iload 6, 2) := by decide +kernel
theorem dX0_copyAllUnits_49 : decode cX0_copyAllUnits 49 = .ok (.invokevirtual 76, 3) := by decide +kernel
theorem dX0_copyAllUnits_52 : decode cX0_copyAllUnits 52 = .ok (.iconst 3, 1) := by decide +kernel
theorem dX0_copyAllUnits_53 : decode cX0_copyAllUnits 53 = .ok (.if_icmp .ne 43, 3) := by decide +kernel
theorem dX0_copyAllUnits_56 : decode cX0_copyAllUnits 56 = .ok (.aload_n 0, 1) := by decide +kernel
theorem dX0_copyAllUnits_57 : decode cX0_copyAllUnits 57 = .ok (.getfield 45, 3) := by decide +kernel
theorem dX0_copyAllUnits_60 : decode cX0_copyAllUnits 60 = .ok (.iload 4, 2) := by decide +kernel
theorem dX0_copyAllUnits_62 : decode cX0_copyAllUnits 62 = .ok (.iconst 1, 1) := by decide +kernel
theorem dX0_copyAllUnits_63 : decode cX0_copyAllUnits 63 = .ok (.isub, 1) := by decide +kernel
theorem dX0_copyAllUnits_64 : decode cX0_copyAllUnits 64 = .ok (.aload_n 0, 1) := by decide +kernel
theorem dX0_copyAllUnits_65 : decode cX0_copyAllUnits 65 = .ok (.getfield 23, 3) := by decide +kernel
theorem dX0_copyAllUnits_68 : decode cX0_copyAllUnits 68 = .ok (.iload 6, 2) := by decide +kernel
theorem dX0_copyAllUnits_70 : decode cX0_copyAllUnits 70 = .ok (.iconst 4, 1) := by decide +kernel
theorem dX0_copyAllUnits_71 : decode cX0_copyAllUnits 71 = .ok (.iadd, 1) := by decide +kernel
theorem dX0_copyAllUnits_72 : decode cX0_copyAllUnits 72 = .ok (.iaload, 1) := by decide +kernel
theorem dX0_copyAllUnits_73 : decode cX0_copyAllUnits 73 = .ok (.iastore, 1) := by decide +kernel
theorem dX0_copyAllUnits_74 : decode cX0_copyAllUnits 74 = .ok (.aload_n 0, 1) := by decide +kernel
theorem dX0_copyAllUnits_75 : decode cX0_copyAllUnits 75 = .ok (.getfield 45, 3) := by decide +kernel
theorem dX0_copyAllUnits_78 : decode cX0_copyAllUnits 78 = .ok (.iload 4, 2) := by decide +kernel
theorem dX0_copyAllUnits_80 : decode cX0_copyAllUnits 80 = .ok (.aload_n 0, 1) := by decide +kernel
theorem dX0_copyAllUnits_81 : decode cX0_copyAllUnits 81 = .ok (.getfield 23, 3) := by decide +kernel
theorem dX0_copyAllUnits_84 : decode cX0_copyAllUnits 84 = .ok (.iload 6, 2) := by decide +kernel
theorem dX0_copyAllUnits_86 : decode cX0_copyAllUnits 86 = .ok (.iconst 3, 1) := by decide +kernel
theorem dX0_copyAllUnits_87 : decode cX0_copyAllUnits 87 = .ok (.iadd, 1) := by decide +kernel
theorem dX0_copyAllUnits_88 : decode cX0_copyAllUnits 88 = .ok (.iaload, 1) := by decide +kernel
theorem dX0_copyAllUnits_89 : decode cX0_copyAllUnits 89 = .ok (.iastore, 1) := by decide +kernel
theorem dX0_copyAllUnits_90 : decode cX0_copyAllUnits 90 = .ok (.iinc 4 1, 3) := by decide +kernel
theorem dX0_copyAllUnits_93 : decode cX0_copyAllUnits 93 = .ok (.goto 34, 3) := by decide +kernel
theorem dX0_copyAllUnits_96 : decode cX0_copyAllUnits 96 = .ok (.aload_n 0, 1) := by decide +kernel
theorem dX0_copyAllUnits_97 : decode cX0_copyAllUnits 97 = .ok (.aload_n 0, 1) := by decide +kernel
theorem dX0_copyAllUnits_98 : decode cX0_copyAllUnits 98 = .ok (.iload 6, 2) := by decide +kernel
theorem dX0_copyAllUnits_100 : decode cX0_copyAllUnits 100 = .ok (.invokevirtual 134, 3) := by decide +kernel
theorem dX0_copyAllUnits_103 : decode cX0_copyAllUnits 103 = .ok (.iconst 0, 1) := by decide +kernel
theorem dX0_copyAllUnits_104 : decode cX0_copyAllUnits 104 = .ok (.aload_n 0, 1) := by decide +kernel
theorem dX0_copyAllUnits_105 : decode cX0_copyAllUnits 105 = .ok (.iload 6, 2) := by decide +kernel
theorem dX0_copyAllUnits_107 : decode cX0_copyAllUnits 107 = .ok (.invokevirtual 187, 3) := by decide +kernel
theorem dX0_copyAllUnits_110 : decode cX0_copyAllUnits 110 = .ok (.iload_n 2, 1) := by decide +kernel
theorem dX0_copyAllUnits_111 : decode cX0_copyAllUnits 111 = .ok (.iload_n 3, 1) := by decide +kernel
theorem dX0_copyAllUnits_112 : decode cX0_copyAllUnits 112 = .ok (.invokevirtual 137, 3) := by decide +kernel
theorem dX0_copyAllUnits_115 : decode cX0_copyAllUnits 115 = .ok (.iload_n 3, 1) := by decide +kernel
theorem dX0_copyAllUnits_116 : decode cX0_copyAllUnits 116 = .ok (.aload_n 0, 1) := by decide +kernel
theorem dX0_copyAllUnits_117 : decode cX0_copyAllUnits 117 = .ok (.iload 6, 2) := by decide +kernel
theorem dX0_copyAllUnits_119 : decode cX0_copyAllUnits 119 = .ok (.invokevirtual 187, 3) := by decide +kernel
theorem dX0_copyAllUnits_122 : decode cX0_copyAllUnits 122 = .ok (.iadd, 1) := by decide +kernel
theorem dX0_copyAllUnits_123 : decode cX0_copyAllUnits 123 = .ok (.istore_n 3, 1) := by decide +kernel
theorem dX0_copyAllUnits_124 : decode cX0_copyAllUnits 124 = .ok (.iinc 4 (-1), 3) := by decide +kernel
theorem dX0_copyAllUnits_127 : decode cX0_copyAllUnits 127 = .ok (.iinc 5 (-1), 3) := by decide +kernel
theorem dX0_copyAllUnits_130 : decode cX0_copyAllUnits 130 = .ok (.goto (-113), 3) := by decide +kernel
theorem dX0_copyAllUnits_133 : decode cX0_copyAllUnits 133 = .ok (.return_, 1) := by decide +kernel
set_option maxRecDepth 20000 in
theorem ggX0_findName_X0_hasSameUnits : GoodIn wsX0_findName wsX0_hasSameUnits := goodIn_r _ [7, 8, 9, 10, 11, 6, 12, 13, 14, 15, 16, 17, 18, 19, 20, 21, 22, 23, 24, 25, 26, 27, 28, 29, 30] (by decide +kernel) (by decide +kernel)
set_option maxRecDepth 20000 in
theorem gX0_findName_X0_hasSameUnits : GoodIn wsX0_findName (wsV RX0 200 RX0 yX0_hasSameUnits wsX0_hasSameUnits) := goodIn_app (goodIn_of _ (by decide +kernel)) ggX0_findName_X0_hasSameUnits
theorem dX0_findName_0 : decode cX0_findName 0 = .ok (.iconst 0, 1) := by decide +kernel
theorem dX0_findName_1 : decode cX0_findName 1 = .ok (.istore_n 2, 1) := by decide +kernel
theorem dX0_findName_2 : decode cX0_findName 2 = .ok (.iload_n 2, 1) := by decide +kernel
theorem dX0_findName_3 : decode cX0_findName 3 = .ok (.aload_n 0, 1) := by decide +kernel
theorem dX0_findName_4 : decode cX0_findName 4 = .ok (.getfield 42, 3) := by decide +kernel
theorem dX0_findName_7 : decode cX0_findName 7 = .ok (.if_icmp .ge 30, 3) := by decide +kernel
theorem dX0_findName_10 : decode cX0_findName 10 = .ok (.aload_n 0, 1) := by decide +kernel
theorem dX0_findName_11 : decode cX0_findName 11 = .ok (.aload_n 0, 1) := by decide +kernel
theorem dX0_findName_12 : decode cX0_findName 12 = .ok (.getfield 39, 3) := by decide +kernel
theorem dX0_findName_15 : decode cX0_findName 15 = .ok (.iload_n 2, 1) := by decide +kernel
theorem dX0_findName_16 : decode cX0_findName 16 = .ok (.iaload, 1) := by decide +kernel
theorem dX0_findName_17 : decode cX0_findName 17 = .ok (.iload_n 1, 1) := by decide +kernel
theorem dX0_findName_18 : decode cX0_findName 18 = .ok (.invokevirtual 200, 3) := by decide +kernel
theorem dX0_findName_21 : decode cX0_findName 21 = .ok (.ifCond .eq 10, 3) := by decide +kernel
theorem dX0_findName_24 : decode cX0_findName 24 = .ok (.aload_n 0, 1) := by decide +kernel
theorem dX0_findName_25 : decode cX0_findName 25 = .ok (.getfield 39, 3) := by decide +kernel
theorem dX0_findName_28 : decode cX0_findName 28 = .ok (.iload_n 2, 1) := by decide +kernel
theorem dX0_findName_29 : decode cX0_findName 29 = .ok (.iaload, 1) := by decide +kernel
theorem dX0_findName_30 : decode cX0_findName 30 = .ok (.ireturn, 1) := by decide +kernel
theorem dX0_findName_31 : decode cX0_findName 31 = .ok (.iinc 2 1, 3) := by decide +kernel
theorem dX0_findName_34 : decode cX0_findName 34 = .ok (.goto (-32), 3) := by decide +kernel
theorem dX0_findName_37 : decode cX0_findName 37 = .ok (.iconst (-1), 1) := by decide +kernel
theorem dX0_findName_38 : decode cX0_findName 38 = .ok (.ireturn, 1) := by decide +kernel
set_option maxRecDepth 20000 in
theorem ggX0_hasSameUnits_X0_lengthAt : GoodIn wsX0_hasSameUnits wsX0_lengthAt := goodIn_r _ [6, 1, 7, 8, 9, 5, 10, 15, 16, 17, 18, 19, 20, 21, 22, 23, 24] (by decide +kernel) (by decide +kernel)
set_option maxRecDepth 20000 in
theorem gX0_hasSameUnits_X0_lengthAt : GoodIn wsX0_hasSameUnits (wsV RX0 187 RX0 yX0_lengthAt wsX0_lengthAt) := goodIn_app (goodIn_of _ (by decide +kernel)) ggX0_hasSameUnits_X0_lengthAt
set_option maxRecDepth 20000 in
theorem ggX0_hasSameUnits_X0_sizeAt : GoodIn wsX0_hasSameUnits wsX0_sizeAt := goodIn_r _ [14, 1, 15, 16, 17, 18, 19, 20, 21, 22, 23, 24] (by decide +kernel) (by decide +kernel)
set_option maxRecDepth 20000 in
theorem gX0_hasSameUnits_X0_sizeAt : GoodIn wsX0_hasSameUnits (wsV RX0 181 RX0 yX0_sizeAt wsX0_sizeAt) := goodIn_app (goodIn_of _ (by decide +kernel)) ggX0_hasSameUnits_X0_sizeAt
theorem dX0_hasSameUnits_0 : decode cX0_hasSameUnits 0 = .ok (.aload_n 0, 1) := by decide +kernel
theorem dX0_hasSameUnits_1 : decode cX0_hasSameUnits 1 = .ok (.iload_n 1, 1) := by decide +kernel
theorem dX0_hasSameUnits_2 : decode cX0_hasSameUnits 2 = .ok (.invokevirtual 187, 3) := by decide +kernel
theorem dX0_hasSameUnits_5 : decode cX0_hasSameUnits 5 = .ok (.aload_n 0, 1) := by decide +kernel
theorem dX0_hasSameUnits_6 : decode cX0_hasSameUnits 6 = .ok (.iload_n 2, 1) := by decide +kernel
theorem dX0_hasSameUnits_7 : decode cX0_hasSameUnits 7 = .ok (.invokevirtual 187, 3) := by decide +kernel
theorem dX0_hasSameUnits_10 : decode cX0_hasSameUnits 10 = .ok (.if_icmp .eq 5, 3) := by decide +kernel
theorem dX0_hasSameUnits_13 : decode cX0_hasSameUnits 13 = .ok (.iconst 0, 1) := by decide +kernel
theorem dX0_hasSameUnits_14 : decode cX0_hasSameUnits 14 = .ok (.ireturn, 1) := by decide +kernel
theorem dX0_hasSameUnits_15 : decode cX0_hasSameUnits 15 = .ok (.aload_n 0, 1) := by decide +kernel
theorem dX0_hasSameUnits_16 : decode cX0_hasSameUnits 16 = .ok (.iload_n 1, 1) := by decide +kernel
theorem dX0_hasSameUnits_17 : decode cX0_hasSameUnits 17 = .ok (.invokevirtual 181, 3) := by decide +kernel
theorem dX0_hasSameUnits_20 : decode cX0_hasSameUnits 20 = .ok (.istore_n 3, 1) := by decide +kernel
theorem dX0_hasSameUnits_21 : decode cX0_hasSameUnits 21 = .ok (.iconst 4, 1) := by decide +kernel
theorem dX0_hasSameUnits_22 : decode cX0_hasSameUnits 22 = .ok (.istore 4, 2) := by decide +kernel
theorem dX0_hasSameUnits_24 : decode cX0_hasSameUnits 24 = .ok (.iload 4, 2) := by decide +kernel
theorem dX0_hasSameUnits_26 : decode cX0_hasSameUnits 26 = .ok (.iload_n 3, 1) := by decide +kernel
theorem dX0_hasSameUnits_27 : decode cX0_hasSameUnits 27 = .ok (.if_icmp .ge 32, 3) := by decide +kernel
theorem dX0_hasSameUnits_30 : decode cX0_hasSameUnits 30 = .ok (.aload_n 0, 1) := by decide +kernel
theorem dX0_hasSameUnits_31 : decode cX0_hasSameUnits 31 = .ok (.getfield 23, 3) := by decide +kernel
theorem dX0_hasSameUnits_34 : decode cX0_hasSameUnits 34 = .ok (.iload_n 1, 1) := by decide +kernel
theorem dX0_hasSameUnits_35 : decode cX0_hasSameUnits 35 = .ok (.iload 4, 2) := by decide +kernel
theorem dX0_hasSameUnits_37 : decode cX0_hasSameUnits 37 = .ok (.iadd, 1) := by decide +kernel
theorem dX0_hasSameUnits_38 : decode cX0_hasSameUnits 38 = .ok (.iaload, 1) := by decide +kernel
theorem dX0_hasSameUnits_39 : decode cX0_hasSameUnits 39 = .ok (.aload_n 0, 1) := by decide +kernel
theorem dX0_hasSameUnits_40 : decode cX0_hasSameUnits 40 = .ok (.getfield 23, 3) := by decide +kernel
theorem dX0_hasSameUnits_43 : decode cX0_hasSameUnits 43 = .ok (.iload_n 2, 1) := by decide +kernel
theorem dX0_hasSameUnits_44 : decode cX0_hasSameUnits 44 = .ok (.iload 4, 2) := by decide +kernel
theorem dX0_hasSameUnits_46 : decode cX0_hasSameUnits 46 = .ok (.iadd, 1) := by decide +kernel
theorem dX0_hasSameUnits_47 : decode cX0_hasSameUnits 47 = .ok (.iaload, 1) := by decide +kernel
theorem dX0_hasSameUnits_48 : decode cX0_hasSameUnits 48 = .ok (.if_icmp .eq 5, 3) := by decide +kernel
theorem dX0_hasSameUnits_51 : decode cX0_hasSameUnits 51 = .ok (.iconst 0, 1) := by decide +kernel
theorem dX0_hasSameUnits_52 : decode cX0_hasSameUnits 52 = .ok (.ireturn, 1) := by decide +kernel
theorem dX0_hasSameUnits_53 : decode cX0_hasSameUnits 53 = .ok (.iinc 4 1, 3) := by decide +kernel
theorem dX0_hasSameUnits_56 : decode cX0_hasSameUnits 56 = .ok (.goto (-32), 3) := by decide +kernel
theorem dX0_hasSameUnits_59 : decode cX0_hasSameUnits 59 = .ok (.iconst 1, 1) := by decide +kernel
theorem dX0_hasSameUnits_60 : decode cX0_hasSameUnits 60 = .ok (.ireturn, 1) := by decide +kernel
set_option maxRecDepth 20000 in
theorem ggX0_makeName_X0_lengthIn : GoodIn wsX0_makeName wsX0_lengthIn := goodIn_r _ [8, 1, 9, 10, 11, 7, 12, 13, 14, 15, 16, 17, 139, 140, 141, 142, 143, 144, 145, 146, 147, 148] (by decide +kernel) (by decide +kernel)
set_option maxRecDepth 20000 in
theorem gX0_makeName_X0_lengthIn : GoodIn wsX0_makeName (wsV RX0 115 RX0 yX0_lengthIn wsX0_lengthIn) := goodIn_app (goodIn_of _ (by decide +kernel)) ggX0_makeName_X0_lengthIn
set_option maxRecDepth 20000 in
theorem ggX0_makeName_X0_makeFlat : GoodIn wsX0_makeName wsX0_makeFlat := goodIn_ca (goodIn_r _ [21, 22, 23, 24, 7, 25, 26, 27, 13, 28, 29, 30, 31, 32, 33, 34, 35, 36, 37, 38, 39, 40, 41, 42, 43, 44, 1, 45, 46, 47, 48, 49, 50, 51, 52, 14, 15, 16, 17, 53, 54, 55, 56, 57, 58, 59, 60, 61, 62, 63, 64, 65, 66, 67, 68, 69, 70, 71, 72, 2, 3, 73, 74, 75, 76, 77, 78, 79, 80, 81, 82, 83, 84, 85, 86, 87, 88, 89, 90, 91, 92, 93, 94, 95, 96, 97, 98, 99, 100, 101, 102, 103, 104, 105, 106, 107, 108, 109, 110, 111, 112, 113, 114, 115, 116, 117, 139, 140, 141, 142, 143, 144, 145, 146, 147, 148, 149, 150, 151, 152] (by decide +kernel) (by decide +kernel)) (goodIn_sub (fun _ h => List.mem_cons_of_mem _ (List.mem_append_right _ h)) (by decide +kernel))
set_option maxRecDepth 20000 in
theorem gX0_makeName_X0_makeFlat : GoodIn wsX0_makeName (wsV RX0 104 RX0 yX0_makeFlat wsX0_makeFlat) := goodIn_app (goodIn_of _ (by decide +kernel)) ggX0_makeName_X0_makeFlat
set_option maxRecDepth 20000 in
theorem ggX0_makeName_X0_flatOf : GoodIn wsX0_makeName wsX0_flatOf := goodIn_r _ [121, 13, 122, 123, 124, 7, 125, 139, 140, 141, 142, 143, 144, 145, 146, 147, 148] (by decide +kernel) (by decide +kernel)
set_option maxRecDepth 20000 in
theorem gX0_makeName_X0_flatOf : GoodIn wsX0_makeName (wsV RX0 134 RX0 yX0_flatOf wsX0_flatOf) := goodIn_app (goodIn_of _ (by decide +kernel)) ggX0_makeName_X0_flatOf
set_option maxRecDepth 20000 in
theorem ggX0_makeName_X0_copyUnits : GoodIn wsX0_makeName wsX0_copyUnits := goodIn_r _ [129, 130, 131, 132, 7, 133, 13, 134, 135, 136, 137, 138, 139, 140, 141, 142, 143, 144, 145, 146, 147, 148] (by decide +kernel) (by decide +kernel)
set_option maxRecDepth 20000 in
theorem gX0_makeName_X0_copyUnits : GoodIn wsX0_makeName (wsV RX0 137 RX0 yX0_copyUnits wsX0_copyUnits) := goodIn_app (goodIn_of _ (by decide +kernel)) ggX0_makeName_X0_copyUnits
set_option maxRecDepth 20000 in
theorem ggX0_makeName_J7_copyOf_59c91 : GoodIn wsX0_makeName wsJ7_copyOf_59c91 := goodIn_r _ [92, 93, 94, 95, 96, 97, 98, 99, 100, 86, 87, 88, 101, 78, 79, 80] (by decide +kernel) (by decide +kernel)
set_option maxRecDepth 20000 in
theorem gX0_makeName_J7_copyOf_59c91 : GoodIn wsX0_makeName (va_wsS RX0 203 yJ7_copyOf_59c91 wsJ7_copyOf_59c91) := goodIn_app (goodIn_of _ (by decide +kernel)) ggX0_makeName_J7_copyOf_59c91
theorem dX0_makeName_0 : decode cX0_makeName 0 = .ok (.aload_n 0, 1) := by decide +kernel
theorem dX0_makeName_1 : decode cX0_makeName 1 = .ok (.iload_n 1, 1) := by decide +kernel
theorem dX0_makeName_2 : decode cX0_makeName 2 = .ok (.invokevirtual 115, 3) := by decide +kernel
theorem dX0_makeName_5 : decode cX0_makeName 5 = .ok (.istore_n 2, 1) := by decide +kernel
theorem dX0_makeName_6 : decode cX0_makeName 6 = .ok (.aload_n 0, 1) := by decide +kernel
theorem dX0_makeName_7 : decode cX0_makeName 7 = .ok (.iconst 5, 1) := by decide +kernel
theorem dX0_makeName_8 : decode cX0_makeName 8 = .ok (.iload_n 2, 1) := by decide +kernel
theorem dX0_makeName_9 : decode cX0_makeName 9 = .ok (.invokevirtual 104, 3) := by decide +kernel
theorem dX0_makeName_12 : decode cX0_makeName 12 = .ok (.istore_n 3, 1) := by decide +kernel
theorem dX0_makeName_13 : decode cX0_makeName 13 = .ok (.aload_n 0, 1) := by decide +kernel
theorem dX0_makeName_14 : decode cX0_makeName 14 = .ok (.aload_n 0, 1) := by decide +kernel
theorem dX0_makeName_15 : decode cX0_makeName 15 = .ok (.aload_n 0, 1) := by decide +kernel
theorem dX0_makeName_16 : decode cX0_makeName 16 = .ok (.getfield 30, 3) := by decide +kernel
theorem dX0_makeName_19 : decode cX0_makeName 19 = .ok (.iload_n 1, 1) := by decide +kernel
theorem dX0_makeName_20 : decode cX0_makeName 20 = .ok (.iaload, 1) := by decide +kernel
theorem dX0_makeName_21 : decode cX0_makeName 21 = .ok (.invokevirtual 134, 3) := by decide +kernel
theorem dX0_makeName_24 : decode cX0_makeName 24 = .ok (.iconst 0, 1) := by decide +kernel
theorem dX0_makeName_25 : decode cX0_makeName 25 = .ok (.iload_n 2, 1) := by decide +kernel
theorem dX0_makeName_26 : decode cX0_makeName 26 = .ok (.iload_n 3, 1) := by decide +kernel
theorem dX0_makeName_27 : decode cX0_makeName 27 = .ok (.iconst 0, 1) := by decide +kernel
theorem dX0_makeName_28 : decode cX0_makeName 28 = .ok (.invokevirtual 137, 3) := by decide +kernel
theorem dX0_makeName_31 : decode cX0_makeName 31 = .ok (.aload_n 0, 1) := by decide +kernel
theorem dX0_makeName_32 : decode cX0_makeName 32 = .ok (.getfield 42, 3) := by decide +kernel
theorem dX0_makeName_35 : decode cX0_makeName 35 = .ok (.aload_n 0, 1) := by decide +kernel
theorem dX0_makeName_36 : decode cX0_makeName 36 = .ok (.getfield 39, 3) := by decide +kernel
theorem dX0_makeName_39 : decode cX0_makeName 39 = .ok (.arraylength, 1) := by decide +kernel
theorem dX0_makeName_40 : decode cX0_makeName 40 = .ok (.if_icmp .ne 20, 3) := by decide +kernel
theorem dX0_makeName_43 : decode cX0_makeName 43 = .ok (.aload_n 0, 1) := by decide +kernel
theorem dX0_makeName_44 : decode cX0_makeName 44 = .ok (.aload_n 0, 1) := by decide +kernel
theorem dX0_makeName_45 : decode cX0_makeName 45 = .ok (.getfield 39, 3) := by decide +kernel
theorem dX0_makeName_48 : decode cX0_makeName 48 = .ok (.iconst 2, 1) := by decide +kernel
theorem dX0_makeName_49 : decode cX0_makeName 49 = .ok (.aload_n 0, 1) := by decide +kernel
theorem dX0_makeName_50 : decode cX0_makeName 50 = .ok (.getfield 42, 3) := by decide +kernel
theorem dX0_makeName_53 : decode cX0_makeName 53 = .ok (.imul, 1) := by decide +kernel
theorem dX0_makeName_54 : decode cX0_makeName 54 = .ok (.invokestatic 203, 3) := by decide +kernel
theorem dX0_makeName_57 : decode cX0_makeName 57 = .ok (.putfield 39, 3) := by decide +kernel
theorem dX0_makeName_60 : decode cX0_makeName 60 = .ok (.aload_n 0, 1) := by decide +kernel
theorem dX0_makeName_61 : decode cX0_makeName 61 = .ok (.getfield 39, 3) := by decide +kernel
theorem dX0_makeName_64 : decode cX0_makeName 64 = .ok (.aload_n 0, 1) := by decide +kernel
theorem dX0_makeName_65 : decode cX0_makeName 65 = .ok (.getfield 42, 3) := by decide +kernel
theorem dX0_makeName_68 : decode cX0_makeName 68 = .ok (.iload_n 3, 1) := by decide +kernel
theorem dX0_makeName_69 : decode cX0_makeName 69 = .ok (.iastore, 1) := by decide +kernel
theorem dX0_makeName_70 : decode cX0_makeName 70 = .ok (.aload_n 0, 1) := by decide +kernel
theorem dX0_makeName_71 : decode cX0_makeName 71 = .ok (.dup, 1) := by decide +kernel
theorem dX0_makeName_72 : decode cX0_makeName 72 = .ok (.getfield 42, 3) := by decide +kernel
theorem dX0_makeName_75 : decode cX0_makeName 75 = .ok (.iconst 1, 1) := by decide +kernel
theorem dX0_makeName_76 : decode cX0_makeName 76 = .ok (.iadd, 1) := by decide +kernel
theorem dX0_makeName_77 : decode cX0_makeName 77 = .ok (.putfield 42, 3) := by decide +kernel
theorem dX0_makeName_80 : decode cX0_makeName 80 = .ok (.iload_n 3, 1) := by decide +kernel
theorem dX0_makeName_81 : decode cX0_makeName 81 = .ok (.ireturn, 1) := by decide +kernel
theorem dX0_isStressed_0 : decode cX0_isStressed 0 = .ok (.aload_n 0, 1) := by decide +kernel
theorem dX0_isStressed_1 : decode cX0_isStressed 1 = .ok (.getfield 51, 3) := by decide +kernel
theorem dX0_isStressed_4 : decode cX0_isStressed 4 = .ok (.ifCond .le 21, 3) := by decide +kernel
theorem dX0_isStressed_7 : decode cX0_isStressed 7 = .ok (.aload_n 0, 1) := by decide +kernel
theorem dX0_isStressed_8 : decode cX0_isStressed 8 = .ok (.getfield 54, 3) := by decide +kernel
theorem dX0_isStressed_11 : decode cX0_isStressed 11 = .ok (.iconst 1, 1) := by decide +kernel
theorem dX0_isStressed_12 : decode cX0_isStressed 12 = .ok (.iadd, 1) := by decide +kernel
theorem dX0_isStressed_13 : decode cX0_isStressed 13 = .ok (.aload_n 0, 1) := by decide +kernel
theorem dX0_isStressed_14 : decode cX0_isStressed 14 = .ok (.getfield 51, 3) := by decide +kernel
theorem dX0_isStressed_17 : decode cX0_isStressed 17 = .ok (.irem, 1) := by decide +kernel
theorem dX0_isStressed_18 : decode cX0_isStressed 18 = .ok (.ifCond .ne 7, 3) := by decide +kernel
theorem dX0_isStressed_21 : decode cX0_isStressed 21 = .ok (.iconst 1, 1) := by decide +kernel
theorem dX0_isStressed_22 : decode cX0_isStressed 22 = .ok (.goto 4, 3) := by decide +kernel
theorem dX0_isStressed_25 : decode cX0_isStressed 25 = .ok (.iconst 0, 1) := by decide +kernel
theorem dX0_isStressed_26 : decode cX0_isStressed 26 = .ok (.ireturn, 1) := by decide +kernel
set_option maxRecDepth 20000 in
theorem ggX0_make_X0_isStressed : GoodIn wsX0_make wsX0_isStressed := goodIn_r _ [11, 12, 6, 98, 99, 100, 101, 102, 103, 104, 105, 106, 107] (by decide +kernel) (by decide +kernel)
set_option maxRecDepth 20000 in
theorem gX0_make_X0_isStressed : GoodIn wsX0_make (wsV RX0 207 RX0 yX0_isStressed wsX0_isStressed) := goodIn_app (goodIn_of _ (by decide +kernel)) ggX0_make_X0_isStressed
set_option maxRecDepth 20000 in
theorem ggX0_make_X0_slideTogether : GoodIn wsX0_make wsX0_slideTogether := goodIn_r _ [16, 4, 17, 3, 18, 19, 20, 10, 21, 22, 23, 24, 25, 26, 27, 28, 29, 30, 31, 32, 33, 34, 35, 36, 37, 38, 39, 40, 41, 42, 43, 44, 45, 46, 47, 48, 49, 50, 51, 52, 53, 54, 55, 56, 57, 58, 59, 60, 61, 62, 63, 64, 98, 99, 100, 101, 102, 103, 104, 105, 106, 107] (by decide +kernel) (by decide +kernel)
set_option maxRecDepth 20000 in
theorem gX0_make_X0_slideTogether : GoodIn wsX0_make (wsV RX0 157 RX0 yX0_slideTogether wsX0_slideTogether) := goodIn_app (goodIn_of _ (by decide +kernel)) ggX0_make_X0_slideTogether
set_option maxRecDepth 20000 in
theorem ggX0_make_X0_widen : GoodIn wsX0_make wsX0_widen := goodIn_r _ [68, 3, 5, 69, 70, 71, 72, 73, 74, 75, 76, 77, 78, 79, 80, 81, 82, 83, 84, 85, 62, 63, 64, 98, 99, 100, 101, 102, 103, 104, 105, 106, 107] (by decide +kernel) (by decide +kernel)
set_option maxRecDepth 20000 in
theorem gX0_make_X0_widen : GoodIn wsX0_make (wsV RX0 213 RX0 yX0_widen wsX0_widen) := goodIn_app (goodIn_of _ (by decide +kernel)) ggX0_make_X0_widen
set_option maxRecDepth 20000 in
theorem ggX0_make_J7_fill_fda19 : GoodIn wsX0_make wsJ7_fill_fda19 := goodIn_r _ [88, 89, 90, 75, 91, 92, 93, 94, 108, 109, 110, 111] (by decide +kernel) (by decide +kernel)
set_option maxRecDepth 20000 in
theorem gX0_make_J7_fill_fda19 : GoodIn wsX0_make (va_wsS RX0 216 yJ7_fill_fda19 wsJ7_fill_fda19) := goodIn_app (goodIn_of _ (by decide +kernel)) ggX0_make_J7_fill_fda19
set_option maxRecDepth 20000 in
theorem ggX0_make_X0_shapeOf : GoodIn wsX0_make wsX0_shapeOf := goodIn_r _ [97] (by decide +kernel) (by decide +kernel)
set_option maxRecDepth 20000 in
theorem gX0_make_X0_shapeOf : GoodIn wsX0_make (va_wsS RX0 197 yX0_shapeOf wsX0_shapeOf) := goodIn_app (goodIn_of _ (by decide +kernel)) ggX0_make_X0_shapeOf
theorem dX0_make_0 : decode cX0_make 0 = .ok (.iconst 3, 1) := by decide +kernel
theorem dX0_make_1 : decode cX0_make 1 = .ok (.iload_n 2, 1) := by decide +kernel
theorem dX0_make_2 : decode cX0_make 2 = .ok (.iadd, 1) := by decide +kernel
theorem dX0_make_3 : decode cX0_make 3 = .ok (.iconst 2, 1) := by decide +kernel
theorem dX0_make_4 : decode cX0_make 4 = .ok (.iload_n 3, 1) := by decide +kernel
theorem dX0_make_5 : decode cX0_make 5 = .ok (.imul, 1) := by decide +kernel
theorem dX0_make_6 : decode cX0_make 6 = .ok (.iadd, 1) := by decide +kernel
theorem dX0_make_7 : decode cX0_make 7 = .ok (.iload 4, 2) := by decide +kernel
theorem dX0_make_9 : decode cX0_make 9 = .ok (.iadd, 1) := by decide +kernel
theorem dX0_make_10 : decode cX0_make 10 = .ok (.istore 5, 2) := by decide +kernel
theorem dX0_make_12 : decode cX0_make 12 = .ok (.iload 5, 2) := by decide +kernel
theorem dX0_make_14 : decode cX0_make 14 = .ok (.aload_n 0, 1) := by decide +kernel
theorem dX0_make_15 : decode cX0_make 15 = .ok (.getfield 23, 3) := by decide +kernel
theorem dX0_make_18 : decode cX0_make 18 = .ok (.arraylength, 1) := by decide +kernel
theorem dX0_make_19 : decode cX0_make 19 = .ok (.aload_n 0, 1) := by decide +kernel
theorem dX0_make_20 : decode cX0_make 20 = .ok (.getfield 27, 3) := by decide +kernel
theorem dX0_make_23 : decode cX0_make 23 = .ok (.isub, 1) := by decide +kernel
theorem dX0_make_24 : decode cX0_make 24 = .ok (.if_icmp .le 7, 3) := by decide +kernel
theorem dX0_make_27 : decode cX0_make 27 = .ok (.iconst 1, 1) := by decide +kernel
theorem dX0_make_28 : decode cX0_make 28 = .ok (.goto 4, 3) := by decide +kernel
theorem dX0_make_31 : decode cX0_make 31 = .ok (.iconst 0, 1) := by decide +kernel
theorem dX0_make_32 : decode cX0_make 32 = .ok (.istore 6, 2) := by decide +kernel
theorem dX0_make_34 : decode cX0_make 34 = .ok (.iload 6, 2) := by decide +kernel
theorem dX0_make_36 : decode cX0_make 36 = .ok (.ifCond .ne 10, 3) := by decide +kernel
theorem dX0_make_39 : decode cX0_make 39 = .ok (.aload_n 0, 1) := by decide +kernel
theorem dX0_make_40 : decode cX0_make 40 = .ok (.invokevirtual 207, 3) := by decide +kernel
theorem dX0_make_43 : decode cX0_make 43 = .ok (.ifCond .eq 7, 3) := by decide +kernel
theorem dX0_make_46 : decode cX0_make 46 = .ok (.aload_n 0, 1) := by decide +kernel
theorem dX0_make_47 : decode cX0_make 47 = .ok (.invokevirtual 157, 3) := by decide +kernel
theorem dX0_make_50 : decode cX0_make 50 = .ok (.iload 5, 2) := by decide +kernel
theorem dX0_make_52 : decode cX0_make 52 = .ok (.aload_n 0, 1) := by decide +kernel
theorem dX0_make_53 : decode cX0_make 53 = .ok (.getfield 19, 3) := by decide +kernel
theorem dX0_make_56 : decode cX0_make 56 = .ok (.aload_n 0, 1) := by decide +kernel
theorem dX0_make_57 : decode cX0_make 57 = .ok (.getfield 27, 3) := by decide +kernel
theorem dX0_make_60 : decode cX0_make 60 = .ok (.isub, 1) := by decide +kernel
theorem dX0_make_61 : decode cX0_make 61 = .ok (.if_icmp .le 13, 3) := by decide +kernel
theorem dX0_make_64 : decode cX0_make 64 = .ok (.new 118, 3) := by decide +kernel
theorem dX0_make_67 : decode cX0_make 67 = .ok (.dup, 1) := by decide +kernel
theorem dX0_make_68 : decode cX0_make 68 = .ok (.ldc 211, 2) := by decide +kernel
theorem dX0_make_70 : decode cX0_make 70 = .ok (.invokespecial 122, 3) := by decide +kernel
theorem dX0_make_73 : decode cX0_make 73 = .ok (.athrow, 1) := by decide +kernel
theorem dX0_make_74 : decode cX0_make 74 = .ok (.iload 6, 2) := by decide +kernel
theorem dX0_make_76 : decode cX0_make 76 = .ok (.ifCond .eq 14, 3) := by decide +kernel
theorem dX0_make_79 : decode cX0_make 79 = .ok (.aload_n 0, 1) := by decide +kernel
theorem dX0_make_80 : decode cX0_make 80 = .ok (.aload_n 0, 1) := by decide +kernel
theorem dX0_make_81 : decode cX0_make 81 = .ok (.getfield 27, 3) := by decide +kernel
theorem dX0_make_84 : decode cX0_make 84 = .ok (.iload 5, 2) := by decide +kernel
theorem dX0_make_86 : decode cX0_make 86 = .ok (.iadd, 1) := by decide +kernel
theorem dX0_make_87 : decode cX0_make 87 = .ok (.invokevirtual 213, 3) := by decide +kernel
theorem dX0_make_90 : decode cX0_make 90 = .ok (.aload_n 0, 1) := by decide +kernel
theorem dX0_make_91 : decode cX0_make 91 = .ok (.getfield 27, 3) := by decide +kernel
theorem dX0_make_94 : decode cX0_make 94 = .ok (.istore 7, 2) := by decide +kernel
theorem dX0_make_96 : decode cX0_make 96 = .ok (.aload_n 0, 1) := by decide +kernel
theorem dX0_make_97 : decode cX0_make 97 = .ok (.dup, 1) := by decide +kernel
theorem dX0_make_98 : decode cX0_make 98 = .ok (.getfield 27, 3) := by decide +kernel
theorem dX0_make_101 : decode cX0_make 101 = .ok (.iload 5, 2) := by decide +kernel
theorem dX0_make_103 : decode cX0_make 103 = .ok (.iadd, 1) := by decide +kernel
theorem dX0_make_104 : decode cX0_make 104 = .ok (.putfield 27, 3) := by decide +kernel
theorem dX0_make_107 : decode cX0_make 107 = .ok (.aload_n 0, 1) := by decide +kernel
theorem dX0_make_108 : decode cX0_make 108 = .ok (.dup, 1) := by decide +kernel
theorem dX0_make_109 : decode cX0_make 109 = .ok (.getfield 54, 3) := by decide +kernel
theorem dX0_make_112 : decode cX0_make 112 = .ok (.iconst 1, 1) := by decide +kernel
theorem dX0_make_113 : decode cX0_make 113 = .ok (.iadd, 1) := by decide +kernel
theorem dX0_make_114 : decode cX0_make 114 = .ok (.putfield 54, 3) := by decide +kernel
theorem dX0_make_117 : decode cX0_make 117 = .ok (.aload_n 0, 1) := by decide +kernel
theorem dX0_make_118 : decode cX0_make 118 = .ok (.getfield 23, 3) := by decide +kernel
theorem dX0_make_121 : decode cX0_make 121 = .ok (.iload 7, 2) := by decide +kernel
theorem dX0_make_123 : decode cX0_make 123 = .ok (.aload_n 0, 1) := by decide +kernel
theorem dX0_make_124 : decode cX0_make 124 = .ok (.getfield 27, 3) := by decide +kernel
theorem dX0_make_127 : decode cX0_make 127 = .ok (.iconst 0, 1) := by decide +kernel
theorem dX0_make_128 : decode cX0_make 128 = .ok (.invokestatic 216, 3) := by decide +kernel
theorem dX0_make_131 : decode cX0_make 131 = .ok (.aload_n 0, 1) := by decide +kernel
theorem dX0_make_132 : decode cX0_make 132 = .ok (.getfield 23, 3) := by decide +kernel
theorem dX0_make_135 : decode cX0_make 135 = .ok (.iload 7, 2) := by decide +kernel
theorem dX0_make_137 : decode cX0_make 137 = .ok (.iconst 3, 1) := by decide +kernel
theorem dX0_make_138 : decode cX0_make 138 = .ok (.iadd, 1) := by decide +kernel
theorem dX0_make_139 : decode cX0_make 139 = .ok (.iload 7, 2) := by decide +kernel
theorem dX0_make_141 : decode cX0_make 141 = .ok (.iconst 3, 1) := by decide +kernel
theorem dX0_make_142 : decode cX0_make 142 = .ok (.iadd, 1) := by decide +kernel
theorem dX0_make_143 : decode cX0_make 143 = .ok (.iload_n 2, 1) := by decide +kernel
theorem dX0_make_144 : decode cX0_make 144 = .ok (.iadd, 1) := by decide +kernel
theorem dX0_make_145 : decode cX0_make 145 = .ok (.iconst (-1), 1) := by decide +kernel
theorem dX0_make_146 : decode cX0_make 146 = .ok (.invokestatic 216, 3) := by decide +kernel
theorem dX0_make_149 : decode cX0_make 149 = .ok (.aload_n 0, 1) := by decide +kernel
theorem dX0_make_150 : decode cX0_make 150 = .ok (.getfield 23, 3) := by decide +kernel
theorem dX0_make_153 : decode cX0_make 153 = .ok (.iload 7, 2) := by decide +kernel
theorem dX0_make_155 : decode cX0_make 155 = .ok (.iconst 0, 1) := by decide +kernel
theorem dX0_make_156 : decode cX0_make 156 = .ok (.iadd, 1) := by decide +kernel
theorem dX0_make_157 : decode cX0_make 157 = .ok (.iload_n 1, 1) := by decide +kernel
theorem dX0_make_158 : decode cX0_make 158 = .ok (.iload_n 2, 1) := by decide +kernel
theorem dX0_make_159 : decode cX0_make 159 = .ok (.iload_n 3, 1) := by decide +kernel
theorem dX0_make_160 : decode cX0_make 160 = .ok (.iload 5, 2) := by decide +kernel
theorem dX0_make_162 : decode cX0_make 162 = .ok (.invokestatic 197, 3) := by decide +kernel
theorem dX0_make_165 : decode cX0_make 165 = .ok (.iastore, 1) := by decide +kernel
theorem dX0_make_166 : decode cX0_make 166 = .ok (.aload_n 0, 1) := by decide +kernel
theorem dX0_make_167 : decode cX0_make 167 = .ok (.getfield 23, 3) := by decide +kernel
theorem dX0_make_170 : decode cX0_make 170 = .ok (.iload 7, 2) := by decide +kernel
theorem dX0_make_172 : decode cX0_make 172 = .ok (.iconst 1, 1) := by decide +kernel
theorem dX0_make_173 : decode cX0_make 173 = .ok (.iadd, 1) := by decide +kernel
theorem dX0_make_174 : decode cX0_make 174 = .ok (.iconst (-1), 1) := by decide +kernel
theorem dX0_make_175 : decode cX0_make 175 = .ok (.iastore, 1) := by decide +kernel
theorem dX0_make_176 : decode cX0_make 176 = .ok (.iload 7, 2) := by decide +kernel
theorem dX0_make_178 : decode cX0_make 178 = .ok (.ireturn, 1) := by decide +kernel
set_option maxRecDepth 20000 in
theorem ggX0_widen_J7_copyOf_59c91 : GoodIn wsX0_widen wsJ7_copyOf_59c91 := goodIn_r _ [10, 11, 12, 13, 14, 15, 16, 17, 18, 4, 5, 6, 19, 20, 21, 22] (by decide +kernel) (by decide +kernel)
set_option maxRecDepth 20000 in
theorem gX0_widen_J7_copyOf_59c91 : GoodIn wsX0_widen (va_wsS RX0 203 yJ7_copyOf_59c91 wsJ7_copyOf_59c91) := goodIn_app (goodIn_of _ (by decide +kernel)) ggX0_widen_J7_copyOf_59c91
theorem dX0_widen_0 : decode cX0_widen 0 = .ok (.aload_n 0, 1) := by decide +kernel
theorem dX0_widen_1 : decode cX0_widen 1 = .ok (.getfield 23, 3) := by decide +kernel
theorem dX0_widen_4 : decode cX0_widen 4 = .ok (.arraylength, 1) := by decide +kernel
theorem dX0_widen_5 : decode cX0_widen 5 = .ok (.istore_n 2, 1) := by decide +kernel
theorem dX0_widen_6 : decode cX0_widen 6 = .ok (.iload_n 2, 1) := by decide +kernel
theorem dX0_widen_7 : decode cX0_widen 7 = .ok (.iconst 2, 1) := by decide +kernel
theorem dX0_widen_8 : decode cX0_widen 8 = .ok (.iload_n 1, 1) := by decide +kernel
theorem dX0_widen_9 : decode cX0_widen 9 = .ok (.imul, 1) := by decide +kernel
theorem dX0_widen_10 : decode cX0_widen 10 = .ok (.if_icmp .ge 18, 3) := by decide +kernel
theorem dX0_widen_13 : decode cX0_widen 13 = .ok (.iload_n 2, 1) := by decide +kernel
theorem dX0_widen_14 : decode cX0_widen 14 = .ok (.aload_n 0, 1) := by decide +kernel
theorem dX0_widen_15 : decode cX0_widen 15 = .ok (.getfield 19, 3) := by decide +kernel
theorem dX0_widen_18 : decode cX0_widen 18 = .ok (.if_icmp .ge 10, 3) := by decide +kernel
theorem dX0_widen_21 : decode cX0_widen 21 = .ok (.iload_n 2, 1) := by decide +kernel
theorem dX0_widen_22 : decode cX0_widen 22 = .ok (.iload_n 2, 1) := by decide +kernel
theorem dX0_widen_23 : decode cX0_widen 23 = .ok (.iadd, 1) := by decide +kernel
theorem dX0_widen_24 : decode cX0_widen 24 = .ok (.istore_n 2, 1) := by decide +kernel
theorem dX0_widen_25 : decode cX0_widen 25 = .ok (.goto (-19), 3) := by decide +kernel
theorem dX0_widen_28 : decode cX0_widen 28 = .ok (.iload_n 2, 1) := by decide +kernel
theorem dX0_widen_29 : decode cX0_widen 29 = .ok (.aload_n 0, 1) := by decide +kernel
theorem dX0_widen_30 : decode cX0_widen 30 = .ok (.getfield 23, 3) := by decide +kernel
theorem dX0_widen_33 : decode cX0_widen 33 = .ok (.arraylength, 1) := by decide +kernel
theorem dX0_widen_34 : decode cX0_widen 34 = .ok (.if_icmp .le 22, 3) := by decide +kernel
theorem dX0_widen_37 : decode cX0_widen 37 = .ok (.aload_n 0, 1) := by decide +kernel
theorem dX0_widen_38 : decode cX0_widen 38 = .ok (.aload_n 0, 1) := by decide +kernel
theorem dX0_widen_39 : decode cX0_widen 39 = .ok (.getfield 23, 3) := by decide +kernel
theorem dX0_widen_42 : decode cX0_widen 42 = .ok (.iload_n 2, 1) := by decide +kernel
theorem dX0_widen_43 : decode cX0_widen 43 = .ok (.aload_n 0, 1) := by decide +kernel
theorem dX0_widen_44 : decode cX0_widen 44 = .ok (.getfield 19, 3) := by decide +kernel
theorem dX0_widen_47 : decode cX0_widen 47 = .ok (.invokestatic 10, 3) := by decide +kernel
theorem dX0_widen_50 : decode cX0_widen 50 = .ok (.invokestatic 203, 3) := by decide +kernel
theorem dX0_widen_53 : decode cX0_widen 53 = .ok (.putfield 23, 3) := by decide +kernel
theorem dX0_widen_56 : decode cX0_widen 56 = .ok (.return_, 1) := by decide +kernel
set_option maxRecDepth 20000 in
theorem ggX0_slideTogether_X0_touchRoots : GoodIn wsX0_slideTogether wsX0_touchRoots := goodIn_r _ [8, 9, 10, 11, 12, 7, 13, 3, 2, 52, 53, 54, 55, 56, 57, 58, 59, 60, 61] (by decide +kernel) (by decide +kernel)
set_option maxRecDepth 20000 in
theorem gX0_slideTogether_X0_touchRoots : GoodIn wsX0_slideTogether (wsV RX0 219 RX0 yX0_touchRoots wsX0_touchRoots) := goodIn_app (goodIn_of _ (by decide +kernel)) ggX0_slideTogether_X0_touchRoots
set_option maxRecDepth 20000 in
theorem ggX0_slideTogether_X0_touchLeads : GoodIn wsX0_slideTogether wsX0_touchLeads := goodIn_r _ [17, 3, 18, 19, 20, 7, 21, 10, 11, 12, 13, 2, 22, 23, 24, 25, 26, 27, 28, 29, 52, 53, 54, 55, 56, 57, 58, 59, 60, 61] (by decide +kernel) (by decide +kernel)
set_option maxRecDepth 20000 in
theorem gX0_slideTogether_X0_touchLeads : GoodIn wsX0_slideTogether (wsV RX0 223 RX0 yX0_touchLeads wsX0_touchLeads) := goodIn_app (goodIn_of _ (by decide +kernel)) ggX0_slideTogether_X0_touchLeads
set_option maxRecDepth 20000 in
theorem ggX0_slideTogether_X0_planMoves : GoodIn wsX0_slideTogether wsX0_planMoves := goodIn_r _ [33, 1, 3, 34, 35, 36, 7, 37, 52, 53, 54, 55, 56, 57, 58, 59, 60, 61] (by decide +kernel) (by decide +kernel)
set_option maxRecDepth 20000 in
theorem gX0_slideTogether_X0_planMoves : GoodIn wsX0_slideTogether (wsV RX0 227 RX0 yX0_planMoves wsX0_planMoves) := goodIn_app (goodIn_of _ (by decide +kernel)) ggX0_slideTogether_X0_planMoves
set_option maxRecDepth 20000 in
theorem ggX0_slideTogether_X0_keepNames : GoodIn wsX0_slideTogether wsX0_keepNames := goodIn_r _ [41, 42, 3, 43, 52, 53, 54, 55, 56, 57, 58, 59, 60, 61] (by decide +kernel) (by decide +kernel)
set_option maxRecDepth 20000 in
theorem gX0_slideTogether_X0_keepNames : GoodIn wsX0_slideTogether (wsV RX0 231 RX0 yX0_keepNames wsX0_keepNames) := goodIn_app (goodIn_of _ (by decide +kernel)) ggX0_slideTogether_X0_keepNames
set_option maxRecDepth 20000 in
theorem ggX0_slideTogether_X0_sizeAt : GoodIn wsX0_slideTogether wsX0_sizeAt := goodIn_r _ [37, 3, 52, 53, 54, 55, 56, 57, 58, 59, 60, 61] (by decide +kernel) (by decide +kernel)
set_option maxRecDepth 20000 in
theorem gX0_slideTogether_X0_sizeAt : GoodIn wsX0_slideTogether (wsV RX0 181 RX0 yX0_sizeAt wsX0_sizeAt) := goodIn_app (goodIn_of _ (by decide +kernel)) ggX0_slideTogether_X0_sizeAt
set_option maxRecDepth 20000 in
theorem ggX0_slideTogether_X0_moveAll : GoodIn wsX0_slideTogether wsX0_moveAll := goodIn_r _ [47, 1, 3, 48, 49, 50, 51, 34, 35, 36, 7, 37, 52, 53, 54, 55, 56, 57, 58, 59, 60, 61] (by decide +kernel) (by decide +kernel)
set_option maxRecDepth 20000 in
theorem gX0_slideTogether_X0_moveAll : GoodIn wsX0_slideTogether (wsV RX0 234 RX0 yX0_moveAll wsX0_moveAll) := goodIn_app (goodIn_of _ (by decide +kernel)) ggX0_slideTogether_X0_moveAll
theorem dX0_slideTogether_0 : decode cX0_slideTogether 0 = .ok (.aload_n 0, 1) := by decide +kernel
theorem dX0_slideTogether_1 : decode cX0_slideTogether 1 = .ok (.iconst 0, 1) := by decide +kernel
theorem dX0_slideTogether_2 : decode cX0_slideTogether 2 = .ok (.invokevirtual 219, 3) := by decide +kernel
theorem dX0_slideTogether_5 : decode cX0_slideTogether 5 = .ok (.aload_n 0, 1) := by decide +kernel
theorem dX0_slideTogether_6 : decode cX0_slideTogether 6 = .ok (.getfield 27, 3) := by decide +kernel
theorem dX0_slideTogether_9 : decode cX0_slideTogether 9 = .ok (.istore_n 1, 1) := by decide +kernel
theorem dX0_slideTogether_10 : decode cX0_slideTogether 10 = .ok (.iload_n 1, 1) := by decide +kernel
theorem dX0_slideTogether_11 : decode cX0_slideTogether 11 = .ok (.ifCond .le 40, 3) := by decide +kernel
theorem dX0_slideTogether_14 : decode cX0_slideTogether 14 = .ok (.aload_n 0, 1) := by decide +kernel
theorem dX0_slideTogether_15 : decode cX0_slideTogether 15 = .ok (.getfield 48, 3) := by decide +kernel
theorem dX0_slideTogether_18 : decode cX0_slideTogether 18 = .ok (.iconst (-1), 1) := by decide +kernel
theorem dX0_slideTogether_19 : decode cX0_slideTogether 19 = .ok (.if_icmp .eq 32, 3) := by decide +kernel
theorem dX0_slideTogether_22 : decode cX0_slideTogether 22 = .ok (.aload_n 0, 1) := by decide +kernel
theorem dX0_slideTogether_23 : decode cX0_slideTogether 23 = .ok (.getfield 48, 3) := by decide +kernel
theorem dX0_slideTogether_26 : decode cX0_slideTogether 26 = .ok (.istore_n 2, 1) := by decide +kernel
theorem dX0_slideTogether_27 : decode cX0_slideTogether 27 = .ok (.aload_n 0, 1) := by decide +kernel
theorem dX0_slideTogether_28 : decode cX0_slideTogether 28 = .ok (.aload_n 0, 1) := by decide +kernel
theorem dX0_slideTogether_29 : decode cX0_slideTogether 29 = .ok (.getfield 23, 3) := by decide +kernel
theorem dX0_slideTogether_32 : decode cX0_slideTogether 32 = .ok (.iload_n 2, 1) := by decide +kernel
theorem dX0_slideTogether_33 : decode cX0_slideTogether 33 = .ok (.iconst 2, 1) := by decide +kernel
theorem dX0_slideTogether_34 : decode cX0_slideTogether 34 = .ok (.iadd, 1) := by decide +kernel
theorem dX0_slideTogether_35 : decode cX0_slideTogether 35 = .ok (.iaload, 1) := by decide +kernel
theorem dX0_slideTogether_36 : decode cX0_slideTogether 36 = .ok (.putfield 48, 3) := by decide +kernel
theorem dX0_slideTogether_39 : decode cX0_slideTogether 39 = .ok (.aload_n 0, 1) := by decide +kernel
theorem dX0_slideTogether_40 : decode cX0_slideTogether 40 = .ok (.iload_n 2, 1) := by decide +kernel
theorem dX0_slideTogether_41 : decode cX0_slideTogether 41 = .ok (.iconst 0, 1) := by decide +kernel
theorem dX0_slideTogether_42 : decode cX0_slideTogether 42 = .ok (.invokevirtual 223, 3) := by decide +kernel
theorem dX0_slideTogether_45 : decode cX0_slideTogether 45 = .ok (.iinc 1 (-1), 3) := by decide +kernel
theorem dX0_slideTogether_48 : decode cX0_slideTogether 48 = .ok (.goto (-38), 3) := by decide +kernel
theorem dX0_slideTogether_51 : decode cX0_slideTogether 51 = .ok (.aload_n 0, 1) := by decide +kernel
theorem dX0_slideTogether_52 : decode cX0_slideTogether 52 = .ok (.invokevirtual 227, 3) := by decide +kernel
theorem dX0_slideTogether_55 : decode cX0_slideTogether 55 = .ok (.istore_n 1, 1) := by decide +kernel
theorem dX0_slideTogether_56 : decode cX0_slideTogether 56 = .ok (.aload_n 0, 1) := by decide +kernel
theorem dX0_slideTogether_57 : decode cX0_slideTogether 57 = .ok (.invokevirtual 231, 3) := by decide +kernel
theorem dX0_slideTogether_60 : decode cX0_slideTogether 60 = .ok (.aload_n 0, 1) := by decide +kernel
theorem dX0_slideTogether_61 : decode cX0_slideTogether 61 = .ok (.iconst 1, 1) := by decide +kernel
theorem dX0_slideTogether_62 : decode cX0_slideTogether 62 = .ok (.invokevirtual 219, 3) := by decide +kernel
theorem dX0_slideTogether_65 : decode cX0_slideTogether 65 = .ok (.iconst 0, 1) := by decide +kernel
theorem dX0_slideTogether_66 : decode cX0_slideTogether 66 = .ok (.istore_n 2, 1) := by decide +kernel
theorem dX0_slideTogether_67 : decode cX0_slideTogether 67 = .ok (.iload_n 2, 1) := by decide +kernel
theorem dX0_slideTogether_68 : decode cX0_slideTogether 68 = .ok (.aload_n 0, 1) := by decide +kernel
theorem dX0_slideTogether_69 : decode cX0_slideTogether 69 = .ok (.getfield 27, 3) := by decide +kernel
theorem dX0_slideTogether_72 : decode cX0_slideTogether 72 = .ok (.if_icmp .ge 32, 3) := by decide +kernel
theorem dX0_slideTogether_75 : decode cX0_slideTogether 75 = .ok (.aload_n 0, 1) := by decide +kernel
theorem dX0_slideTogether_76 : decode cX0_slideTogether 76 = .ok (.getfield 23, 3) := by decide +kernel
theorem dX0_slideTogether_79 : decode cX0_slideTogether 79 = .ok (.iload_n 2, 1) := by decide +kernel
theorem dX0_slideTogether_80 : decode cX0_slideTogether 80 = .ok (.iconst 1, 1) := by decide +kernel
theorem dX0_slideTogether_81 : decode cX0_slideTogether 81 = .ok (.iadd, 1) := by decide +kernel
theorem dX0_slideTogether_82 : decode cX0_slideTogether 82 = .ok (.iaload, 1) := by decide +kernel
theorem dX0_slideTogether_83 : decode cX0_slideTogether 83 = .ok (.iconst (-1), 1) := by decide +kernel
theorem dX0_slideTogether_84 : decode cX0_slideTogether 84 = .ok (.if_icmp .eq 9, 3) := by decide +kernel
theorem dX0_slideTogether_87 : decode cX0_slideTogether 87 = .ok (.aload_n 0, 1) := by decide +kernel
theorem dX0_slideTogether_88 : decode cX0_slideTogether 88 = .ok (.iload_n 2, 1) := by decide +kernel
theorem dX0_slideTogether_89 : decode cX0_slideTogether 89 = .ok (.iconst 1, 1) := by decide +kernel
theorem dX0_slideTogether_90 : decode cX0_slideTogether 90 = .ok (.invokevirtual 223, 3) := by decide +kernel
theorem dX0_slideTogether_93 : decode cX0_slideTogether 93 = .ok (.iload_n 2, 1) := by decide +kernel
theorem dX0_slideTogether_94 : decode cX0_slideTogether 94 = .ok (.aload_n 0, 1) := by decide +kernel
theorem dX0_slideTogether_95 : decode cX0_slideTogether 95 = .ok (.iload_n 2, 1) := by decide +kernel
theorem dX0_slideTogether_96 : decode cX0_slideTogether 96 = .ok (.invokevirtual 181, 3) := by decide +kernel
theorem dX0_slideTogether_99 : decode cX0_slideTogether 99 = .ok (.iadd, 1) := by decide +kernel
theorem dX0_slideTogether_100 : decode cX0_slideTogether 100 = .ok (.istore_n 2, 1) := by decide +kernel
theorem dX0_slideTogether_101 : decode cX0_slideTogether 101 = .ok (.goto (-34), 3) := by decide +kernel
theorem dX0_slideTogether_104 : decode cX0_slideTogether 104 = .ok (.aload_n 0, 1) := by decide +kernel
theorem dX0_slideTogether_105 : decode cX0_slideTogether 105 = .ok (.invokevirtual 234, 3) := by decide +kernel
theorem dX0_slideTogether_108 : decode cX0_slideTogether 108 = .ok (.aload_n 0, 1) := by decide +kernel
theorem dX0_slideTogether_109 : decode cX0_slideTogether 109 = .ok (.iload_n 1, 1) := by decide +kernel
theorem dX0_slideTogether_110 : decode cX0_slideTogether 110 = .ok (.putfield 27, 3) := by decide +kernel
theorem dX0_slideTogether_113 : decode cX0_slideTogether 113 = .ok (.return_, 1) := by decide +kernel
set_option maxRecDepth 20000 in
theorem ggX0_touchRoots_X0_touch : GoodIn wsX0_touchRoots wsX0_touch := goodIn_r _ [6, 7, 8, 9, 10, 11, 12, 13, 14, 15, 16, 17, 18] (by decide +kernel) (by decide +kernel)
set_option maxRecDepth 20000 in
theorem gX0_touchRoots_X0_touch : GoodIn wsX0_touchRoots (wsV RX0 237 RX0 yX0_touch wsX0_touch) := goodIn_app (goodIn_of _ (by decide +kernel)) ggX0_touchRoots_X0_touch
theorem dX0_touchRoots_0 : decode cX0_touchRoots 0 = .ok (.iconst 0, 1) := by decide +kernel
theorem dX0_touchRoots_1 : decode cX0_touchRoots 1 = .ok (.istore_n 2, 1) := by decide +kernel
theorem dX0_touchRoots_2 : decode cX0_touchRoots 2 = .ok (.iload_n 2, 1) := by decide +kernel
theorem dX0_touchRoots_3 : decode cX0_touchRoots 3 = .ok (.bipush 24, 2) := by decide +kernel
theorem dX0_touchRoots_5 : decode cX0_touchRoots 5 = .ok (.if_icmp .ge 26, 3) := by decide +kernel
theorem dX0_touchRoots_8 : decode cX0_touchRoots 8 = .ok (.aload_n 0, 1) := by decide +kernel
theorem dX0_touchRoots_9 : decode cX0_touchRoots 9 = .ok (.getfield 30, 3) := by decide +kernel
theorem dX0_touchRoots_12 : decode cX0_touchRoots 12 = .ok (.iload_n 2, 1) := by decide +kernel
theorem dX0_touchRoots_13 : decode cX0_touchRoots 13 = .ok (.aload_n 0, 1) := by decide +kernel
theorem dX0_touchRoots_14 : decode cX0_touchRoots 14 = .ok (.aload_n 0, 1) := by decide +kernel
theorem dX0_touchRoots_15 : decode cX0_touchRoots 15 = .ok (.getfield 30, 3) := by decide +kernel
theorem dX0_touchRoots_18 : decode cX0_touchRoots 18 = .ok (.iload_n 2, 1) := by decide +kernel
theorem dX0_touchRoots_19 : decode cX0_touchRoots 19 = .ok (.iaload, 1) := by decide +kernel
theorem dX0_touchRoots_20 : decode cX0_touchRoots 20 = .ok (.iload_n 1, 1) := by decide +kernel
theorem dX0_touchRoots_21 : decode cX0_touchRoots 21 = .ok (.invokevirtual 237, 3) := by decide +kernel
theorem dX0_touchRoots_24 : decode cX0_touchRoots 24 = .ok (.iastore, 1) := by decide +kernel
theorem dX0_touchRoots_25 : decode cX0_touchRoots 25 = .ok (.iinc 2 1, 3) := by decide +kernel
theorem dX0_touchRoots_28 : decode cX0_touchRoots 28 = .ok (.goto (-26), 3) := by decide +kernel
theorem dX0_touchRoots_31 : decode cX0_touchRoots 31 = .ok (.return_, 1) := by decide +kernel
set_option maxRecDepth 20000 in
theorem ggX0_touchLeads_X0_linksAt : GoodIn wsX0_touchLeads wsX0_linksAt := goodIn_r _ [6, 1, 20, 21, 22, 23, 24, 25, 26, 27, 28, 29] (by decide +kernel) (by decide +kernel)
set_option maxRecDepth 20000 in
theorem gX0_touchLeads_X0_linksAt : GoodIn wsX0_touchLeads (wsV RX0 171 RX0 yX0_linksAt wsX0_linksAt) := goodIn_app (goodIn_of _ (by decide +kernel)) ggX0_touchLeads_X0_linksAt
set_option maxRecDepth 20000 in
theorem ggX0_touchLeads_X0_touch : GoodIn wsX0_touchLeads wsX0_touch := goodIn_r _ [10, 1, 11, 20, 21, 22, 23, 24, 25, 26, 27, 28, 29] (by decide +kernel) (by decide +kernel)
set_option maxRecDepth 20000 in
theorem gX0_touchLeads_X0_touch : GoodIn wsX0_touchLeads (wsV RX0 237 RX0 yX0_touch wsX0_touch) := goodIn_app (goodIn_of _ (by decide +kernel)) ggX0_touchLeads_X0_touch
set_option maxRecDepth 20000 in
theorem ggX0_touchLeads_X0_valuesAt : GoodIn wsX0_touchLeads wsX0_valuesAt := goodIn_r _ [15, 1, 20, 21, 22, 23, 24, 25, 26, 27, 28, 29] (by decide +kernel) (by decide +kernel)
set_option maxRecDepth 20000 in
theorem gX0_touchLeads_X0_valuesAt : GoodIn wsX0_touchLeads (wsV RX0 176 RX0 yX0_valuesAt wsX0_valuesAt) := goodIn_app (goodIn_of _ (by decide +kernel)) ggX0_touchLeads_X0_valuesAt
set_option maxRecDepth 20000 in
theorem ggX0_touchLeads_X0_isReference : GoodIn wsX0_touchLeads wsX0_isReference := goodIn_r _ [18, 19] (by decide +kernel) (by decide +kernel)
set_option maxRecDepth 20000 in
theorem gX0_touchLeads_X0_isReference : GoodIn wsX0_touchLeads (va_wsS RX0 86 yX0_isReference wsX0_isReference) := goodIn_app (goodIn_of _ (by decide +kernel)) ggX0_touchLeads_X0_isReference
theorem dX0_touchLeads_0 : decode cX0_touchLeads 0 = .ok (.iload_n 1, 1) := by decide +kernel
theorem dX0_touchLeads_1 : decode cX0_touchLeads 1 = .ok (.iconst 3, 1) := by decide +kernel
theorem dX0_touchLeads_2 : decode cX0_touchLeads 2 = .ok (.iadd, 1) := by decide +kernel
theorem dX0_touchLeads_3 : decode cX0_touchLeads 3 = .ok (.aload_n 0, 1) := by decide +kernel
theorem dX0_touchLeads_4 : decode cX0_touchLeads 4 = .ok (.iload_n 1, 1) := by decide +kernel
theorem dX0_touchLeads_5 : decode cX0_touchLeads 5 = .ok (.invokevirtual 171, 3) := by decide +kernel
theorem dX0_touchLeads_8 : decode cX0_touchLeads 8 = .ok (.iadd, 1) := by decide +kernel
theorem dX0_touchLeads_9 : decode cX0_touchLeads 9 = .ok (.istore_n 3, 1) := by decide +kernel
theorem dX0_touchLeads_10 : decode cX0_touchLeads 10 = .ok (.iload_n 1, 1) := by decide +kernel
theorem dX0_touchLeads_11 : decode cX0_touchLeads 11 = .ok (.iconst 3, 1) := by decide +kernel
theorem dX0_touchLeads_12 : decode cX0_touchLeads 12 = .ok (.iadd, 1) := by decide +kernel
theorem dX0_touchLeads_13 : decode cX0_touchLeads 13 = .ok (.istore 4, 2) := by decide +kernel
theorem dX0_touchLeads_15 : decode cX0_touchLeads 15 = .ok (.iload 4, 2) := by decide +kernel
theorem dX0_touchLeads_17 : decode cX0_touchLeads 17 = .ok (.iload_n 3, 1) := by decide +kernel
theorem dX0_touchLeads_18 : decode cX0_touchLeads 18 = .ok (.if_icmp .ge 28, 3) := by decide +kernel
theorem dX0_touchLeads_21 : decode cX0_touchLeads 21 = .ok (.aload_n 0, 1) := by decide +kernel
theorem dX0_touchLeads_22 : decode cX0_touchLeads 22 = .ok (.getfield 23, 3) := by decide +kernel
theorem dX0_touchLeads_25 : decode cX0_touchLeads 25 = .ok (.iload 4, 2) := by decide +kernel
theorem dX0_touchLeads_27 : decode cX0_touchLeads 27 = .ok (.aload_n 0, 1) := by decide +kernel
theorem dX0_touchLeads_28 : decode cX0_touchLeads 28 = .ok (.aload_n 0, 1) := by decide +kernel
theorem dX0_touchLeads_29 : decode cX0_touchLeads 29 = .ok (.getfield 23, 3) := by decide +kernel
theorem dX0_touchLeads_32 : decode cX0_touchLeads 32 = .ok (.iload 4, 2) := by decide +kernel
theorem dX0_touchLeads_34 : decode cX0_touchLeads 34 = .ok (.iaload, 1) := by decide +kernel
theorem dX0_touchLeads_35 : decode cX0_touchLeads 35 = .ok (.iload_n 2, 1) := by decide +kernel
theorem dX0_touchLeads_36 : decode cX0_touchLeads 36 = .ok (.invokevirtual 237, 3) := by decide +kernel
theorem dX0_touchLeads_39 : decode cX0_touchLeads 39 = .ok (.iastore, 1) := by decide +kernel
theorem dX0_touchLeads_40 : decode cX0_touchLeads 40 = .ok (.iinc 4 1, 3) := by decide +kernel
theorem dX0_touchLeads_43 : decode cX0_touchLeads 43 = .ok (.goto (-28), 3) := by decide +kernel
theorem dX0_touchLeads_46 : decode cX0_touchLeads 46 = .ok (.iload_n 3, 1) := by decide +kernel
theorem dX0_touchLeads_47 : decode cX0_touchLeads 47 = .ok (.iconst 2, 1) := by decide +kernel
theorem dX0_touchLeads_48 : decode cX0_touchLeads 48 = .ok (.aload_n 0, 1) := by decide +kernel
theorem dX0_touchLeads_49 : decode cX0_touchLeads 49 = .ok (.iload_n 1, 1) := by decide +kernel
theorem dX0_touchLeads_50 : decode cX0_touchLeads 50 = .ok (.invokevirtual 176, 3) := by decide +kernel
theorem dX0_touchLeads_53 : decode cX0_touchLeads 53 = .ok (.imul, 1) := by decide +kernel
theorem dX0_touchLeads_54 : decode cX0_touchLeads 54 = .ok (.iadd, 1) := by decide +kernel
theorem dX0_touchLeads_55 : decode cX0_touchLeads 55 = .ok (.istore 4, 2) := by decide +kernel
theorem dX0_touchLeads_57 : decode cX0_touchLeads 57 = .ok (.iload_n 3, 1) := by decide +kernel
theorem dX0_touchLeads_58 : decode cX0_touchLeads 58 = .ok (.istore 5, 2) := by decide +kernel
theorem dX0_touchLeads_60 : decode cX0_touchLeads 60 = .ok (.iload 5, 2) := by decide +kernel
theorem dX0_touchLeads_62 : decode cX0_touchLeads 62 = .ok (.iload 4, 2) := by decide +kernel
theorem dX0_touchLeads_64 : decode cX0_touchLeads 64 = .ok (.if_icmp .ge 45, 3) := by decide +kernel
theorem dX0_touchLeads_67 : decode cX0_touchLeads 67 = .ok (.aload_n 0, 1) := by decide +kernel
theorem dX0_touchLeads_68 : decode cX0_touchLeads 68 = .ok (.getfield 23, 3) := by decide +kernel
theorem dX0_touchLeads_71 : decode cX0_touchLeads 71 = .ok (.iload 5, 2) := by decide +kernel
theorem dX0_touchLeads_73 : decode cX0_touchLeads 73 = .ok (.iaload, 1) := by decide +kernel
theorem dX0_touchLeads_74 : decode cX0_touchLeads 74 = .ok (.invokestatic 86, 3) := by decide +kernel
theorem dX0_touchLeads_77 : decode cX0_touchLeads 77 = .ok (.ifCond .eq 26, 3) := by decide +kernel
theorem dX0_touchLeads_80 : decode cX0_touchLeads 80 = .ok (.aload_n 0, 1) := by decide +kernel
theorem dX0_touchLeads_81 : decode cX0_touchLeads 81 = .ok (.getfield 23, 3) := by decide +kernel
theorem dX0_touchLeads_84 : decode cX0_touchLeads 84 = .ok (.iload 5, 2) := by decide +kernel
theorem dX0_touchLeads_86 : decode cX0_touchLeads 86 = .ok (.iconst 1, 1) := by decide +kernel
theorem dX0_touchLeads_87 : decode cX0_touchLeads 87 = .ok (.iadd, 1) := by decide +kernel
theorem dX0_touchLeads_88 : decode cX0_touchLeads 88 = .ok (.aload_n 0, 1) := by decide +kernel
theorem dX0_touchLeads_89 : decode cX0_touchLeads 89 = .ok (.aload_n 0, 1) := by decide +kernel
theorem dX0_touchLeads_90 : decode cX0_touchLeads 90 = .ok (.getfield 23, 3) := by decide +kernel
theorem dX0_touchLeads_93 : decode cX0_touchLeads 93 = .ok (.iload 5, 2) := by decide +kernel
theorem dX0_touchLeads_95 : decode cX0_touchLeads 95 = .ok (.iconst 1, 1) := by decide +kernel
theorem dX0_touchLeads_96 : decode cX0_touchLeads 96 = .ok (.iadd, 1) := by decide +kernel
theorem dX0_touchLeads_97 : decode cX0_touchLeads 97 = .ok (.iaload, 1) := by decide +kernel
theorem dX0_touchLeads_98 : decode cX0_touchLeads 98 = .ok (.iload_n 2, 1) := by decide +kernel
theorem dX0_touchLeads_99 : decode cX0_touchLeads 99 = .ok (.invokevirtual 237, 3) := by decide +kernel
theorem dX0_touchLeads_102 : decode cX0_touchLeads 102 = .ok (.iastore, 1) := by decide +kernel
theorem dX0_touchLeads_103 : decode cX0_touchLeads 103 = .ok (.iinc 5 2, 3) := by decide +kernel
theorem dX0_touchLeads_106 : decode cX0_touchLeads 106 = .ok (.goto (-46), 3) := by decide +kernel
theorem dX0_touchLeads_109 : decode cX0_touchLeads 109 = .ok (.return_, 1) := by decide +kernel
theorem dX0_touch_0 : decode cX0_touch 0 = .ok (.iload_n 1, 1) := by decide +kernel
theorem dX0_touch_1 : decode cX0_touch 1 = .ok (.iconst (-1), 1) := by decide +kernel
theorem dX0_touch_2 : decode cX0_touch 2 = .ok (.if_icmp .ne 5, 3) := by decide +kernel
theorem dX0_touch_5 : decode cX0_touch 5 = .ok (.iconst (-1), 1) := by decide +kernel
theorem dX0_touch_6 : decode cX0_touch 6 = .ok (.ireturn, 1) := by decide +kernel
theorem dX0_touch_7 : decode cX0_touch 7 = .ok (.iload_n 2, 1) := by decide +kernel
theorem dX0_touch_8 : decode cX0_touch 8 = .ok (.ifCond .eq 12, 3) := by decide +kernel
theorem dX0_touch_11 : decode cX0_touch 11 = .ok (.aload_n 0, 1) := by decide +kernel
theorem dX0_touch_12 : decode cX0_touch 12 = .ok (.getfield 23, 3) := by decide +kernel
theorem dX0_touch_15 : decode cX0_touch 15 = .ok (.iload_n 1, 1) := by decide +kernel
theorem dX0_touch_16 : decode cX0_touch 16 = .ok (.iconst 1, 1) := by decide +kernel
theorem dX0_touch_17 : decode cX0_touch 17 = .ok (.iadd, 1) := by decide +kernel
theorem dX0_touch_18 : decode cX0_touch 18 = .ok (.iaload, 1) := by decide +kernel
theorem dX0_touch_19 : decode cX0_touch 19 = .ok (.ireturn, 1) := by decide +kernel
theorem dX0_touch_20 : decode cX0_touch 20 = .ok (.aload_n 0, 1) := by decide +kernel
theorem dX0_touch_21 : decode cX0_touch 21 = .ok (.getfield 23, 3) := by decide +kernel
theorem dX0_touch_24 : decode cX0_touch 24 = .ok (.iload_n 1, 1) := by decide +kernel
theorem dX0_touch_25 : decode cX0_touch 25 = .ok (.iconst 1, 1) := by decide +kernel
theorem dX0_touch_26 : decode cX0_touch 26 = .ok (.iadd, 1) := by decide +kernel
theorem dX0_touch_27 : decode cX0_touch 27 = .ok (.iaload, 1) := by decide +kernel
theorem dX0_touch_28 : decode cX0_touch 28 = .ok (.iconst (-1), 1) := by decide +kernel
theorem dX0_touch_29 : decode cX0_touch 29 = .ok (.if_icmp .ne 29, 3) := by decide +kernel
theorem dX0_touch_32 : decode cX0_touch 32 = .ok (.aload_n 0, 1) := by decide +kernel
theorem dX0_touch_33 : decode cX0_touch 33 = .ok (.getfield 23, 3) := by decide +kernel
theorem dX0_touch_36 : decode cX0_touch 36 = .ok (.iload_n 1, 1) := by decide +kernel
theorem dX0_touch_37 : decode cX0_touch 37 = .ok (.iconst 1, 1) := by decide +kernel
theorem dX0_touch_38 : decode cX0_touch 38 = .ok (.iadd, 1) := by decide +kernel
theorem dX0_touch_39 : decode cX0_touch 39 = .ok (.iload_n 1, 1) := by decide +kernel
theorem dX0_touch_40 : decode cX0_touch 40 = .ok (.iastore, 1) := by decide +kernel
theorem dX0_touch_41 : decode cX0_touch 41 = .ok (.aload_n 0, 1) := by decide +kernel
theorem dX0_touch_42 : decode cX0_touch 42 = .ok (.getfield 23, 3) := by decide +kernel
theorem dX0_touch_45 : decode cX0_touch 45 = .ok (.iload_n 1, 1) := by decide +kernel
theorem dX0_touch_46 : decode cX0_touch 46 = .ok (.iconst 2, 1) := by decide +kernel
theorem dX0_touch_47 : decode cX0_touch 47 = .ok (.iadd, 1) := by decide +kernel
theorem dX0_touch_48 : decode cX0_touch 48 = .ok (.aload_n 0, 1) := by decide +kernel
theorem dX0_touch_49 : decode cX0_touch 49 = .ok (.getfield 48, 3) := by decide +kernel
theorem dX0_touch_52 : decode cX0_touch 52 = .ok (.iastore, 1) := by decide +kernel
theorem dX0_touch_53 : decode cX0_touch 53 = .ok (.aload_n 0, 1) := by decide +kernel
theorem dX0_touch_54 : decode cX0_touch 54 = .ok (.iload_n 1, 1) := by decide +kernel
theorem dX0_touch_55 : decode cX0_touch 55 = .ok (.putfield 48, 3) := by decide +kernel
theorem dX0_touch_58 : decode cX0_touch 58 = .ok (.iload_n 1, 1) := by decide +kernel
theorem dX0_touch_59 : decode cX0_touch 59 = .ok (.ireturn, 1) := by decide +kernel
set_option maxRecDepth 20000 in
theorem ggX0_planMoves_X0_sizeAt : GoodIn wsX0_planMoves wsX0_sizeAt := goodIn_r _ [7, 2, 8, 9, 10, 11, 12, 13, 14, 15, 16, 17] (by decide +kernel) (by decide +kernel)
set_option maxRecDepth 20000 in
theorem gX0_planMoves_X0_sizeAt : GoodIn wsX0_planMoves (wsV RX0 181 RX0 yX0_sizeAt wsX0_sizeAt) := goodIn_app (goodIn_of _ (by decide +kernel)) ggX0_planMoves_X0_sizeAt
theorem dX0_planMoves_0 : decode cX0_planMoves 0 = .ok (.iconst 0, 1) := by decide +kernel
theorem dX0_planMoves_1 : decode cX0_planMoves 1 = .ok (.istore_n 1, 1) := by decide +kernel
theorem dX0_planMoves_2 : decode cX0_planMoves 2 = .ok (.iconst 0, 1) := by decide +kernel
theorem dX0_planMoves_3 : decode cX0_planMoves 3 = .ok (.istore_n 2, 1) := by decide +kernel
theorem dX0_planMoves_4 : decode cX0_planMoves 4 = .ok (.iload_n 2, 1) := by decide +kernel
theorem dX0_planMoves_5 : decode cX0_planMoves 5 = .ok (.aload_n 0, 1) := by decide +kernel
theorem dX0_planMoves_6 : decode cX0_planMoves 6 = .ok (.getfield 27, 3) := by decide +kernel
theorem dX0_planMoves_9 : decode cX0_planMoves 9 = .ok (.if_icmp .ge 43, 3) := by decide +kernel
theorem dX0_planMoves_12 : decode cX0_planMoves 12 = .ok (.aload_n 0, 1) := by decide +kernel
theorem dX0_planMoves_13 : decode cX0_planMoves 13 = .ok (.getfield 23, 3) := by decide +kernel
theorem dX0_planMoves_16 : decode cX0_planMoves 16 = .ok (.iload_n 2, 1) := by decide +kernel
theorem dX0_planMoves_17 : decode cX0_planMoves 17 = .ok (.iconst 1, 1) := by decide +kernel
theorem dX0_planMoves_18 : decode cX0_planMoves 18 = .ok (.iadd, 1) := by decide +kernel
theorem dX0_planMoves_19 : decode cX0_planMoves 19 = .ok (.iaload, 1) := by decide +kernel
theorem dX0_planMoves_20 : decode cX0_planMoves 20 = .ok (.iconst (-1), 1) := by decide +kernel
theorem dX0_planMoves_21 : decode cX0_planMoves 21 = .ok (.if_icmp .eq 20, 3) := by decide +kernel
theorem dX0_planMoves_24 : decode cX0_planMoves 24 = .ok (.aload_n 0, 1) := by decide +kernel
theorem dX0_planMoves_25 : decode cX0_planMoves 25 = .ok (.getfield 23, 3) := by decide +kernel
theorem dX0_planMoves_28 : decode cX0_planMoves 28 = .ok (.iload_n 2, 1) := by decide +kernel
theorem dX0_planMoves_29 : decode cX0_planMoves 29 = .ok (.iconst 1, 1) := by decide +kernel
theorem dX0_planMoves_30 : decode cX0_planMoves 30 = .ok (.iadd, 1) := by decide +kernel
theorem dX0_planMoves_31 : decode cX0_planMoves 31 = .ok (.iload_n 1, 1) := by decide +kernel
theorem dX0_planMoves_32 : decode cX0_planMoves 32 = .ok (.iastore, 1) := by decide +kernel
theorem dX0_planMoves_33 : decode cX0_planMoves 33 = .ok (.iload_n 1, 1) := by decide +kernel
theorem dX0_planMoves_34 : decode cX0_planMoves 34 = .ok (.aload_n 0, 1) := by decide +kernel
theorem dX0_planMoves_35 : decode cX0_planMoves 35 = .ok (.iload_n 2, 1) := by decide +kernel
theorem dX0_planMoves_36 : decode cX0_planMoves 36 = .ok (.invokevirtual 181, 3) := by decide +kernel
theorem dX0_planMoves_39 : decode cX0_planMoves 39 = .ok (.iadd, 1) := by decide +kernel
theorem dX0_planMoves_40 : decode cX0_planMoves 40 = .ok (.istore_n 1, 1) := by decide +kernel
theorem dX0_planMoves_41 : decode cX0_planMoves 41 = .ok (.iload_n 2, 1) := by decide +kernel
theorem dX0_planMoves_42 : decode cX0_planMoves 42 = .ok (.aload_n 0, 1) := by decide +kernel
theorem dX0_planMoves_43 : decode cX0_planMoves 43 = .ok (.iload_n 2, 1) := by decide +kernel
theorem dX0_planMoves_44 : decode cX0_planMoves 44 = .ok (.invokevirtual 181, 3) := by decide +kernel
theorem dX0_planMoves_47 : decode cX0_planMoves 47 = .ok (.iadd, 1) := by decide +kernel
theorem dX0_planMoves_48 : decode cX0_planMoves 48 = .ok (.istore_n 2, 1) := by decide +kernel
theorem dX0_planMoves_49 : decode cX0_planMoves 49 = .ok (.goto (-45), 3) := by decide +kernel
theorem dX0_planMoves_52 : decode cX0_planMoves 52 = .ok (.iload_n 1, 1) := by decide +kernel
theorem dX0_planMoves_53 : decode cX0_planMoves 53 = .ok (.ireturn, 1) := by decide +kernel
theorem dX0_keepNames_0 : decode cX0_keepNames 0 = .ok (.iconst 0, 1) := by decide +kernel
theorem dX0_keepNames_1 : decode cX0_keepNames 1 = .ok (.istore_n 1, 1) := by decide +kernel
theorem dX0_keepNames_2 : decode cX0_keepNames 2 = .ok (.iconst 0, 1) := by decide +kernel
theorem dX0_keepNames_3 : decode cX0_keepNames 3 = .ok (.istore_n 2, 1) := by decide +kernel
theorem dX0_keepNames_4 : decode cX0_keepNames 4 = .ok (.iload_n 2, 1) := by decide +kernel
theorem dX0_keepNames_5 : decode cX0_keepNames 5 = .ok (.aload_n 0, 1) := by decide +kernel
theorem dX0_keepNames_6 : decode cX0_keepNames 6 = .ok (.getfield 42, 3) := by decide +kernel
theorem dX0_keepNames_9 : decode cX0_keepNames 9 = .ok (.if_icmp .ge 38, 3) := by decide +kernel
theorem dX0_keepNames_12 : decode cX0_keepNames 12 = .ok (.aload_n 0, 1) := by decide +kernel
theorem dX0_keepNames_13 : decode cX0_keepNames 13 = .ok (.getfield 23, 3) := by decide +kernel
theorem dX0_keepNames_16 : decode cX0_keepNames 16 = .ok (.aload_n 0, 1) := by decide +kernel
theorem dX0_keepNames_17 : decode cX0_keepNames 17 = .ok (.getfield 39, 3) := by decide +kernel
theorem dX0_keepNames_20 : decode cX0_keepNames 20 = .ok (.iload_n 2, 1) := by decide +kernel
theorem dX0_keepNames_21 : decode cX0_keepNames 21 = .ok (.iaload, 1) := by decide +kernel
theorem dX0_keepNames_22 : decode cX0_keepNames 22 = .ok (.iconst 1, 1) := by decide +kernel
theorem dX0_keepNames_23 : decode cX0_keepNames 23 = .ok (.iadd, 1) := by decide +kernel
theorem dX0_keepNames_24 : decode cX0_keepNames 24 = .ok (.iaload, 1) := by decide +kernel
theorem dX0_keepNames_25 : decode cX0_keepNames 25 = .ok (.istore_n 3, 1) := by decide +kernel
theorem dX0_keepNames_26 : decode cX0_keepNames 26 = .ok (.iload_n 3, 1) := by decide +kernel
theorem dX0_keepNames_27 : decode cX0_keepNames 27 = .ok (.iconst (-1), 1) := by decide +kernel
theorem dX0_keepNames_28 : decode cX0_keepNames 28 = .ok (.if_icmp .eq 13, 3) := by decide +kernel
theorem dX0_keepNames_31 : decode cX0_keepNames 31 = .ok (.aload_n 0, 1) := by decide +kernel
theorem dX0_keepNames_32 : decode cX0_keepNames 32 = .ok (.getfield 39, 3) := by decide +kernel
theorem dX0_keepNames_35 : decode cX0_keepNames 35 = .ok (.iload_n 1, 1) := by decide +kernel
theorem dX0_keepNames_36 : decode cX0_keepNames 36 = .ok (.iload_n 3, 1) := by decide +kernel
theorem dX0_keepNames_37 : decode cX0_keepNames 37 = .ok (.iastore, 1) := by decide +kernel
theorem dX0_keepNames_38 : decode cX0_keepNames 38 = .ok (.iinc 1 1, 3) := by decide +kernel
theorem dX0_keepNames_41 : decode cX0_keepNames 41 = .ok (.iinc 2 1, 3) := by decide +kernel
theorem dX0_keepNames_44 : decode cX0_keepNames 44 = .ok (.goto (-40), 3) := by decide +kernel
theorem dX0_keepNames_47 : decode cX0_keepNames 47 = .ok (.aload_n 0, 1) := by decide +kernel
theorem dX0_keepNames_48 : decode cX0_keepNames 48 = .ok (.iload_n 1, 1) := by decide +kernel
theorem dX0_keepNames_49 : decode cX0_keepNames 49 = .ok (.putfield 42, 3) := by decide +kernel
theorem dX0_keepNames_52 : decode cX0_keepNames 52 = .ok (.return_, 1) := by decide +kernel
set_option maxRecDepth 20000 in
theorem ggX0_moveAll_X0_sizeAt : GoodIn wsX0_moveAll wsX0_sizeAt := goodIn_r _ [11, 2, 12, 13, 14, 15, 16, 17, 18, 19, 20, 21] (by decide +kernel) (by decide +kernel)
set_option maxRecDepth 20000 in
theorem gX0_moveAll_X0_sizeAt : GoodIn wsX0_moveAll (wsV RX0 181 RX0 yX0_sizeAt wsX0_sizeAt) := goodIn_app (goodIn_of _ (by decide +kernel)) ggX0_moveAll_X0_sizeAt
theorem dX0_moveAll_0 : decode cX0_moveAll 0 = .ok (.iconst 0, 1) := by decide +kernel
theorem dX0_moveAll_1 : decode cX0_moveAll 1 = .ok (.istore_n 2, 1) := by decide +kernel
theorem dX0_moveAll_2 : decode cX0_moveAll 2 = .ok (.iload_n 2, 1) := by decide +kernel
theorem dX0_moveAll_3 : decode cX0_moveAll 3 = .ok (.aload_n 0, 1) := by decide +kernel
theorem dX0_moveAll_4 : decode cX0_moveAll 4 = .ok (.getfield 27, 3) := by decide +kernel
theorem dX0_moveAll_7 : decode cX0_moveAll 7 = .ok (.if_icmp .ge 58, 3) := by decide +kernel
theorem dX0_moveAll_10 : decode cX0_moveAll 10 = .ok (.aload_n 0, 1) := by decide +kernel
theorem dX0_moveAll_11 : decode cX0_moveAll 11 = .ok (.iload_n 2, 1) := by decide +kernel
theorem dX0_moveAll_12 : decode cX0_moveAll 12 = .ok (.invokevirtual 181, 3) := by decide +kernel
theorem dX0_moveAll_15 : decode cX0_moveAll 15 = .ok (.istore_n 1, 1) := by decide +kernel
theorem dX0_moveAll_16 : decode cX0_moveAll 16 = .ok (.aload_n 0, 1) := by decide +kernel
theorem dX0_moveAll_17 : decode cX0_moveAll 17 = .ok (.getfield 23, 3) := by decide +kernel
theorem dX0_moveAll_20 : decode cX0_moveAll 20 = .ok (.iload_n 2, 1) := by decide +kernel
theorem dX0_moveAll_21 : decode cX0_moveAll 21 = .ok (.iconst 1, 1) := by decide +kernel
theorem dX0_moveAll_22 : decode cX0_moveAll 22 = .ok (.iadd, 1) := by decide +kernel
theorem dX0_moveAll_23 : decode cX0_moveAll 23 = .ok (.iaload, 1) := by decide +kernel
theorem dX0_moveAll_24 : decode cX0_moveAll 24 = .ok (.istore_n 3, 1) := by decide +kernel
theorem dX0_moveAll_25 : decode cX0_moveAll 25 = .ok (.aload_n 0, 1) := by decide +kernel
theorem dX0_moveAll_26 : decode cX0_moveAll 26 = .ok (.getfield 23, 3) := by decide +kernel
theorem dX0_moveAll_29 : decode cX0_moveAll 29 = .ok (.iload_n 2, 1) := by decide +kernel
theorem dX0_moveAll_30 : decode cX0_moveAll 30 = .ok (.iconst 1, 1) := by decide +kernel
theorem dX0_moveAll_31 : decode cX0_moveAll 31 = .ok (.iadd, 1) := by decide +kernel
theorem dX0_moveAll_32 : decode cX0_moveAll 32 = .ok (.iconst (-1), 1) := by decide +kernel
theorem dX0_moveAll_33 : decode cX0_moveAll 33 = .ok (.iastore, 1) := by decide +kernel
theorem dX0_moveAll_34 : decode cX0_moveAll 34 = .ok (.iload_n 3, 1) := by decide +kernel
theorem dX0_moveAll_35 : decode cX0_moveAll 35 = .ok (.iconst (-1), 1) := by decide +kernel
theorem dX0_moveAll_36 : decode cX0_moveAll 36 = .ok (.if_icmp .eq 22, 3) := by decide +kernel
theorem dX0_moveAll_39 : decode cX0_moveAll 39 = .ok (.iload_n 3, 1) := by decide +kernel
theorem dX0_moveAll_40 : decode cX0_moveAll 40 = .ok (.iload_n 2, 1) := by decide +kernel
theorem dX0_moveAll_41 : decode cX0_moveAll 41 = .ok (.if_icmp .ge 17, 3) := by decide +kernel
theorem dX0_moveAll_44 : decode cX0_moveAll 44 = .ok (.aload_n 0, 1) := by decide +kernel
theorem dX0_moveAll_45 : decode cX0_moveAll 45 = .ok (.getfield 23, 3) := by decide +kernel
theorem dX0_moveAll_48 : decode cX0_moveAll 48 = .ok (.iload_n 2, 1) := by decide +kernel
theorem dX0_moveAll_49 : decode cX0_moveAll 49 = .ok (.aload_n 0, 1) := by decide +kernel
theorem dX0_moveAll_50 : decode cX0_moveAll 50 = .ok (.getfield 23, 3) := by decide +kernel
theorem dX0_moveAll_53 : decode cX0_moveAll 53 = .ok (.iload_n 3, 1) := by decide +kernel
theorem dX0_moveAll_54 : decode cX0_moveAll 54 = .ok (.iload_n 1, 1) := by decide +kernel
theorem dX0_moveAll_55 : decode cX0_moveAll 55 = .ok (.invokestatic 241, 3) := by decide +kernel
theorem dX0_moveAll_58 : decode cX0_moveAll 58 = .ok (.iload_n 2, 1) := by decide +kernel
theorem dX0_moveAll_59 : decode cX0_moveAll 59 = .ok (.iload_n 1, 1) := by decide +kernel
theorem dX0_moveAll_60 : decode cX0_moveAll 60 = .ok (.iadd, 1) := by decide +kernel
theorem dX0_moveAll_61 : decode cX0_moveAll 61 = .ok (.istore_n 2, 1) := by decide +kernel
theorem dX0_moveAll_62 : decode cX0_moveAll 62 = .ok (.goto (-60), 3) := by decide +kernel
theorem dX0_moveAll_65 : decode cX0_moveAll 65 = .ok (.return_, 1) := by decide +kernel
