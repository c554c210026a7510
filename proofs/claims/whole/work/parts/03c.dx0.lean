set_option maxRecDepth 20000 in
theorem ggX0_needText_X0_needRoot : GoodIn wsX0_needText wsX0_needRoot := goodIn_ca (goodIn_r _ [7, 1, 2] (by decide +kernel) (by decide +kernel)) (goodIn_sub (fun _ h => List.mem_cons_of_mem _ (List.mem_append_right _ h)) (by decide +kernel))
set_option maxRecDepth 20000 in
theorem gX0_needText_X0_needRoot : GoodIn wsX0_needText (va_wsS RX0 57 yX0_needRoot wsX0_needRoot) := goodIn_app (goodIn_of _ (by decide +kernel)) ggX0_needText_X0_needRoot
set_option maxRecDepth 20000 in
theorem ggX0_needText_X0_kindAt : GoodIn wsX0_needText wsX0_kindAt := goodIn_r _ [11, 12, 13, 14, 15, 16, 17, 18, 19, 20, 21, 22] (by decide +kernel) (by decide +kernel)
set_option maxRecDepth 20000 in
theorem gX0_needText_X0_kindAt : GoodIn wsX0_needText (wsV RX0 76 RX0 yX0_kindAt wsX0_kindAt) := goodIn_app (goodIn_of _ (by decide +kernel)) ggX0_needText_X0_kindAt
theorem dX0_needText_0 : decode cX0_needText 0 = .ok (.iload_n 1, 1) := by decide +kernel
theorem dX0_needText_1 : decode cX0_needText 1 = .ok (.invokestatic 57, 3) := by decide +kernel
theorem dX0_needText_4 : decode cX0_needText 4 = .ok (.aload_n 0, 1) := by decide +kernel
theorem dX0_needText_5 : decode cX0_needText 5 = .ok (.aload_n 0, 1) := by decide +kernel
theorem dX0_needText_6 : decode cX0_needText 6 = .ok (.getfield 30, 3) := by decide +kernel
theorem dX0_needText_9 : decode cX0_needText 9 = .ok (.iload_n 1, 1) := by decide +kernel
theorem dX0_needText_10 : decode cX0_needText 10 = .ok (.iaload, 1) := by decide +kernel
theorem dX0_needText_11 : decode cX0_needText 11 = .ok (.invokevirtual 76, 3) := by decide +kernel
theorem dX0_needText_14 : decode cX0_needText 14 = .ok (.istore_n 2, 1) := by decide +kernel
theorem dX0_needText_15 : decode cX0_needText 15 = .ok (.iload_n 2, 1) := by decide +kernel
theorem dX0_needText_16 : decode cX0_needText 16 = .ok (.ifCond .eq 8, 3) := by decide +kernel
theorem dX0_needText_19 : decode cX0_needText 19 = .ok (.iload_n 2, 1) := by decide +kernel
theorem dX0_needText_20 : decode cX0_needText 20 = .ok (.iconst 1, 1) := by decide +kernel
theorem dX0_needText_21 : decode cX0_needText 21 = .ok (.if_icmp .ne 13, 3) := by decide +kernel
theorem dX0_needText_24 : decode cX0_needText 24 = .ok (.new 65, 3) := by decide +kernel
theorem dX0_needText_27 : decode cX0_needText 27 = .ok (.dup, 1) := by decide +kernel
theorem dX0_needText_28 : decode cX0_needText 28 = .ok (.ldc 164, 2) := by decide +kernel
theorem dX0_needText_30 : decode cX0_needText 30 = .ok (.invokespecial 69, 3) := by decide +kernel
theorem dX0_needText_33 : decode cX0_needText 33 = .ok (.athrow, 1) := by decide +kernel
theorem dX0_needText_34 : decode cX0_needText 34 = .ok (.return_, 1) := by decide +kernel
set_option maxRecDepth 20000 in
theorem ggX0_needBlock_X0_needRoot : GoodIn wsX0_needBlock wsX0_needRoot := goodIn_ca (goodIn_r _ [7, 1, 2] (by decide +kernel) (by decide +kernel)) (goodIn_sub (fun _ h => List.mem_cons_of_mem _ (List.mem_append_right _ h)) (by decide +kernel))
set_option maxRecDepth 20000 in
theorem gX0_needBlock_X0_needRoot : GoodIn wsX0_needBlock (va_wsS RX0 57 yX0_needRoot wsX0_needRoot) := goodIn_app (goodIn_of _ (by decide +kernel)) ggX0_needBlock_X0_needRoot
set_option maxRecDepth 20000 in
theorem ggX0_needBlock_X0_kindAt : GoodIn wsX0_needBlock wsX0_kindAt := goodIn_r _ [11, 12, 13, 14, 15, 16, 17, 18, 19, 20, 21, 22] (by decide +kernel) (by decide +kernel)
set_option maxRecDepth 20000 in
theorem gX0_needBlock_X0_kindAt : GoodIn wsX0_needBlock (wsV RX0 76 RX0 yX0_kindAt wsX0_kindAt) := goodIn_app (goodIn_of _ (by decide +kernel)) ggX0_needBlock_X0_kindAt
theorem dX0_needBlock_0 : decode cX0_needBlock 0 = .ok (.iload_n 1, 1) := by decide +kernel
theorem dX0_needBlock_1 : decode cX0_needBlock 1 = .ok (.invokestatic 57, 3) := by decide +kernel
theorem dX0_needBlock_4 : decode cX0_needBlock 4 = .ok (.aload_n 0, 1) := by decide +kernel
theorem dX0_needBlock_5 : decode cX0_needBlock 5 = .ok (.getfield 30, 3) := by decide +kernel
theorem dX0_needBlock_8 : decode cX0_needBlock 8 = .ok (.iload_n 1, 1) := by decide +kernel
theorem dX0_needBlock_9 : decode cX0_needBlock 9 = .ok (.iaload, 1) := by decide +kernel
theorem dX0_needBlock_10 : decode cX0_needBlock 10 = .ok (.istore_n 2, 1) := by decide +kernel
theorem dX0_needBlock_11 : decode cX0_needBlock 11 = .ok (.aload_n 0, 1) := by decide +kernel
theorem dX0_needBlock_12 : decode cX0_needBlock 12 = .ok (.iload_n 2, 1) := by decide +kernel
theorem dX0_needBlock_13 : decode cX0_needBlock 13 = .ok (.invokevirtual 76, 3) := by decide +kernel
theorem dX0_needBlock_16 : decode cX0_needBlock 16 = .ok (.iconst 1, 1) := by decide +kernel
theorem dX0_needBlock_17 : decode cX0_needBlock 17 = .ok (.if_icmp .eq 13, 3) := by decide +kernel
theorem dX0_needBlock_20 : decode cX0_needBlock 20 = .ok (.new 65, 3) := by decide +kernel
theorem dX0_needBlock_23 : decode cX0_needBlock 23 = .ok (.dup, 1) := by decide +kernel
theorem dX0_needBlock_24 : decode cX0_needBlock 24 = .ok (.ldc 166, 2) := by decide +kernel
theorem dX0_needBlock_26 : decode cX0_needBlock 26 = .ok (.invokespecial 69, 3) := by decide +kernel
theorem dX0_needBlock_29 : decode cX0_needBlock 29 = .ok (.athrow, 1) := by decide +kernel
theorem dX0_needBlock_30 : decode cX0_needBlock 30 = .ok (.iload_n 2, 1) := by decide +kernel
theorem dX0_needBlock_31 : decode cX0_needBlock 31 = .ok (.ireturn, 1) := by decide +kernel
set_option maxRecDepth 20000 in
theorem ggX0_linkSlot_X0_needBlock : GoodIn wsX0_linkSlot wsX0_needBlock := goodIn_ca (goodIn_r _ [7, 1, 2, 8, 9, 10, 6, 11, 12, 13, 14, 15, 16, 21, 22, 23, 24, 25, 26, 27, 28, 29, 30] (by decide +kernel) (by decide +kernel)) (goodIn_sub (fun _ h => List.mem_cons_of_mem _ (List.mem_append_right _ h)) (by decide +kernel))
set_option maxRecDepth 20000 in
theorem gX0_linkSlot_X0_needBlock : GoodIn wsX0_linkSlot (wsV RX0 168 RX0 yX0_needBlock wsX0_needBlock) := goodIn_app (goodIn_of _ (by decide +kernel)) ggX0_linkSlot_X0_needBlock
set_option maxRecDepth 20000 in
theorem ggX0_linkSlot_X0_linksAt : GoodIn wsX0_linkSlot wsX0_linksAt := goodIn_r _ [20, 16, 21, 22, 23, 24, 25, 26, 27, 28, 29, 30] (by decide +kernel) (by decide +kernel)
set_option maxRecDepth 20000 in
theorem gX0_linkSlot_X0_linksAt : GoodIn wsX0_linkSlot (wsV RX0 171 RX0 yX0_linksAt wsX0_linksAt) := goodIn_app (goodIn_of _ (by decide +kernel)) ggX0_linkSlot_X0_linksAt
theorem dX0_linkSlot_0 : decode cX0_linkSlot 0 = .ok (.aload_n 0, 1) := by decide +kernel
theorem dX0_linkSlot_1 : decode cX0_linkSlot 1 = .ok (.iload_n 1, 1) := by decide +kernel
theorem dX0_linkSlot_2 : decode cX0_linkSlot 2 = .ok (.invokevirtual 168, 3) := by decide +kernel
theorem dX0_linkSlot_5 : decode cX0_linkSlot 5 = .ok (.istore_n 3, 1) := by decide +kernel
theorem dX0_linkSlot_6 : decode cX0_linkSlot 6 = .ok (.iload_n 2, 1) := by decide +kernel
theorem dX0_linkSlot_7 : decode cX0_linkSlot 7 = .ok (.ifCond .lt 12, 3) := by decide +kernel
theorem dX0_linkSlot_10 : decode cX0_linkSlot 10 = .ok (.iload_n 2, 1) := by decide +kernel
theorem dX0_linkSlot_11 : decode cX0_linkSlot 11 = .ok (.aload_n 0, 1) := by decide +kernel
theorem dX0_linkSlot_12 : decode cX0_linkSlot 12 = .ok (.iload_n 3, 1) := by decide +kernel
theorem dX0_linkSlot_13 : decode cX0_linkSlot 13 = .ok (.invokevirtual 171, 3) := by decide +kernel
theorem dX0_linkSlot_16 : decode cX0_linkSlot 16 = .ok (.if_icmp .lt 13, 3) := by decide +kernel
theorem dX0_linkSlot_19 : decode cX0_linkSlot 19 = .ok (.new 65, 3) := by decide +kernel
theorem dX0_linkSlot_22 : decode cX0_linkSlot 22 = .ok (.dup, 1) := by decide +kernel
theorem dX0_linkSlot_23 : decode cX0_linkSlot 23 = .ok (.ldc 174, 2) := by decide +kernel
theorem dX0_linkSlot_25 : decode cX0_linkSlot 25 = .ok (.invokespecial 69, 3) := by decide +kernel
theorem dX0_linkSlot_28 : decode cX0_linkSlot 28 = .ok (.athrow, 1) := by decide +kernel
theorem dX0_linkSlot_29 : decode cX0_linkSlot 29 = .ok (.iload_n 3, 1) := by decide +kernel
theorem dX0_linkSlot_30 : decode cX0_linkSlot 30 = .ok (.iconst 3, 1) := by decide +kernel
theorem dX0_linkSlot_31 : decode cX0_linkSlot 31 = .ok (.iadd, 1) := by decide +kernel
theorem dX0_linkSlot_32 : decode cX0_linkSlot 32 = .ok (.iload_n 2, 1) := by decide +kernel
theorem dX0_linkSlot_33 : decode cX0_linkSlot 33 = .ok (.iadd, 1) := by decide +kernel
theorem dX0_linkSlot_34 : decode cX0_linkSlot 34 = .ok (.ireturn, 1) := by decide +kernel
set_option maxRecDepth 20000 in
theorem ggX0_valueSlot_X0_needBlock : GoodIn wsX0_valueSlot wsX0_needBlock := goodIn_ca (goodIn_r _ [7, 1, 2, 8, 9, 10, 6, 11, 12, 13, 14, 15, 16, 25, 26, 27, 28, 29, 30, 31, 32, 33, 34] (by decide +kernel) (by decide +kernel)) (goodIn_sub (fun _ h => List.mem_cons_of_mem _ (List.mem_append_right _ h)) (by decide +kernel))
set_option maxRecDepth 20000 in
theorem gX0_valueSlot_X0_needBlock : GoodIn wsX0_valueSlot (wsV RX0 168 RX0 yX0_needBlock wsX0_needBlock) := goodIn_app (goodIn_of _ (by decide +kernel)) ggX0_valueSlot_X0_needBlock
set_option maxRecDepth 20000 in
theorem ggX0_valueSlot_X0_valuesAt : GoodIn wsX0_valueSlot wsX0_valuesAt := goodIn_r _ [20, 16, 25, 26, 27, 28, 29, 30, 31, 32, 33, 34] (by decide +kernel) (by decide +kernel)
set_option maxRecDepth 20000 in
theorem gX0_valueSlot_X0_valuesAt : GoodIn wsX0_valueSlot (wsV RX0 176 RX0 yX0_valuesAt wsX0_valuesAt) := goodIn_app (goodIn_of _ (by decide +kernel)) ggX0_valueSlot_X0_valuesAt
set_option maxRecDepth 20000 in
theorem ggX0_valueSlot_X0_linksAt : GoodIn wsX0_valueSlot wsX0_linksAt := goodIn_r _ [24, 16, 25, 26, 27, 28, 29, 30, 31, 32, 33, 34] (by decide +kernel) (by decide +kernel)
set_option maxRecDepth 20000 in
theorem gX0_valueSlot_X0_linksAt : GoodIn wsX0_valueSlot (wsV RX0 171 RX0 yX0_linksAt wsX0_linksAt) := goodIn_app (goodIn_of _ (by decide +kernel)) ggX0_valueSlot_X0_linksAt
theorem dX0_valueSlot_0 : decode cX0_valueSlot 0 = .ok (.aload_n 0, 1) := by decide +kernel
theorem dX0_valueSlot_1 : decode cX0_valueSlot 1 = .ok (.iload_n 1, 1) := by decide +kernel
theorem dX0_valueSlot_2 : decode cX0_valueSlot 2 = .ok (.invokevirtual 168, 3) := by decide +kernel
theorem dX0_valueSlot_5 : decode cX0_valueSlot 5 = .ok (.istore_n 3, 1) := by decide +kernel
theorem dX0_valueSlot_6 : decode cX0_valueSlot 6 = .ok (.iload_n 2, 1) := by decide +kernel
theorem dX0_valueSlot_7 : decode cX0_valueSlot 7 = .ok (.ifCond .lt 12, 3) := by decide +kernel
theorem dX0_valueSlot_10 : decode cX0_valueSlot 10 = .ok (.iload_n 2, 1) := by decide +kernel
theorem dX0_valueSlot_11 : decode cX0_valueSlot 11 = .ok (.aload_n 0, 1) := by decide +kernel
theorem dX0_valueSlot_12 : decode cX0_valueSlot 12 = .ok (.iload_n 3, 1) := by decide +kernel
theorem dX0_valueSlot_13 : decode cX0_valueSlot 13 = .ok (.invokevirtual 176, 3) := by decide +kernel
theorem dX0_valueSlot_16 : decode cX0_valueSlot 16 = .ok (.if_icmp .lt 13, 3) := by decide +kernel
theorem dX0_valueSlot_19 : decode cX0_valueSlot 19 = .ok (.new 65, 3) := by decide +kernel
theorem dX0_valueSlot_22 : decode cX0_valueSlot 22 = .ok (.dup, 1) := by decide +kernel
theorem dX0_valueSlot_23 : decode cX0_valueSlot 23 = .ok (.ldc 179, 2) := by decide +kernel
theorem dX0_valueSlot_25 : decode cX0_valueSlot 25 = .ok (.invokespecial 69, 3) := by decide +kernel
theorem dX0_valueSlot_28 : decode cX0_valueSlot 28 = .ok (.athrow, 1) := by decide +kernel
theorem dX0_valueSlot_29 : decode cX0_valueSlot 29 = .ok (.iload_n 3, 1) := by decide +kernel
theorem dX0_valueSlot_30 : decode cX0_valueSlot 30 = .ok (.iconst 3, 1) := by decide +kernel
theorem dX0_valueSlot_31 : decode cX0_valueSlot 31 = .ok (.iadd, 1) := by decide +kernel
theorem dX0_valueSlot_32 : decode cX0_valueSlot 32 = .ok (.aload_n 0, 1) := by decide +kernel
theorem dX0_valueSlot_33 : decode cX0_valueSlot 33 = .ok (.iload_n 3, 1) := by decide +kernel
theorem dX0_valueSlot_34 : decode cX0_valueSlot 34 = .ok (.invokevirtual 171, 3) := by decide +kernel
theorem dX0_valueSlot_37 : decode cX0_valueSlot 37 = .ok (.iadd, 1) := by decide +kernel
theorem dX0_valueSlot_38 : decode cX0_valueSlot 38 = .ok (.iconst 2, 1) := by decide +kernel
theorem dX0_valueSlot_39 : decode cX0_valueSlot 39 = .ok (.iload_n 2, 1) := by decide +kernel
theorem dX0_valueSlot_40 : decode cX0_valueSlot 40 = .ok (.imul, 1) := by decide +kernel
theorem dX0_valueSlot_41 : decode cX0_valueSlot 41 = .ok (.iadd, 1) := by decide +kernel
theorem dX0_valueSlot_42 : decode cX0_valueSlot 42 = .ok (.ireturn, 1) := by decide +kernel
set_option maxRecDepth 20000 in
theorem ggX0_plainSlot_X0_needBlock : GoodIn wsX0_plainSlot wsX0_needBlock := goodIn_ca (goodIn_r _ [7, 1, 2, 8, 9, 10, 6, 11, 12, 13, 14, 15, 16, 29, 30, 31, 32, 33, 34, 35, 36, 37, 38] (by decide +kernel) (by decide +kernel)) (goodIn_sub (fun _ h => List.mem_cons_of_mem _ (List.mem_append_right _ h)) (by decide +kernel))
set_option maxRecDepth 20000 in
theorem gX0_plainSlot_X0_needBlock : GoodIn wsX0_plainSlot (wsV RX0 168 RX0 yX0_needBlock wsX0_needBlock) := goodIn_app (goodIn_of _ (by decide +kernel)) ggX0_plainSlot_X0_needBlock
set_option maxRecDepth 20000 in
theorem ggX0_plainSlot_X0_linksAt : GoodIn wsX0_plainSlot wsX0_linksAt := goodIn_r _ [20, 16, 29, 30, 31, 32, 33, 34, 35, 36, 37, 38] (by decide +kernel) (by decide +kernel)
set_option maxRecDepth 20000 in
theorem gX0_plainSlot_X0_linksAt : GoodIn wsX0_plainSlot (wsV RX0 171 RX0 yX0_linksAt wsX0_linksAt) := goodIn_app (goodIn_of _ (by decide +kernel)) ggX0_plainSlot_X0_linksAt
set_option maxRecDepth 20000 in
theorem ggX0_plainSlot_X0_valuesAt : GoodIn wsX0_plainSlot wsX0_valuesAt := goodIn_r _ [24, 16, 29, 30, 31, 32, 33, 34, 35, 36, 37, 38] (by decide +kernel) (by decide +kernel)
set_option maxRecDepth 20000 in
theorem gX0_plainSlot_X0_valuesAt : GoodIn wsX0_plainSlot (wsV RX0 176 RX0 yX0_valuesAt wsX0_valuesAt) := goodIn_app (goodIn_of _ (by decide +kernel)) ggX0_plainSlot_X0_valuesAt
set_option maxRecDepth 20000 in
theorem ggX0_plainSlot_X0_sizeAt : GoodIn wsX0_plainSlot wsX0_sizeAt := goodIn_r _ [28, 16, 29, 30, 31, 32, 33, 34, 35, 36, 37, 38] (by decide +kernel) (by decide +kernel)
set_option maxRecDepth 20000 in
theorem gX0_plainSlot_X0_sizeAt : GoodIn wsX0_plainSlot (wsV RX0 181 RX0 yX0_sizeAt wsX0_sizeAt) := goodIn_app (goodIn_of _ (by decide +kernel)) ggX0_plainSlot_X0_sizeAt
theorem dX0_plainSlot_0 : decode cX0_plainSlot 0 = .ok (.aload_n 0, 1) := by decide +kernel
theorem dX0_plainSlot_1 : decode cX0_plainSlot 1 = .ok (.iload_n 1, 1) := by decide +kernel
theorem dX0_plainSlot_2 : decode cX0_plainSlot 2 = .ok (.invokevirtual 168, 3) := by decide +kernel
theorem dX0_plainSlot_5 : decode cX0_plainSlot 5 = .ok (.istore_n 3, 1) := by decide +kernel
theorem dX0_plainSlot_6 : decode cX0_plainSlot 6 = .ok (.iconst 3, 1) := by decide +kernel
theorem dX0_plainSlot_7 : decode cX0_plainSlot 7 = .ok (.aload_n 0, 1) := by decide +kernel
theorem dX0_plainSlot_8 : decode cX0_plainSlot 8 = .ok (.iload_n 3, 1) := by decide +kernel
theorem dX0_plainSlot_9 : decode cX0_plainSlot 9 = .ok (.invokevirtual 171, 3) := by decide +kernel
theorem dX0_plainSlot_12 : decode cX0_plainSlot 12 = .ok (.iadd, 1) := by decide +kernel
theorem dX0_plainSlot_13 : decode cX0_plainSlot 13 = .ok (.iconst 2, 1) := by decide +kernel
theorem dX0_plainSlot_14 : decode cX0_plainSlot 14 = .ok (.aload_n 0, 1) := by decide +kernel
theorem dX0_plainSlot_15 : decode cX0_plainSlot 15 = .ok (.iload_n 3, 1) := by decide +kernel
theorem dX0_plainSlot_16 : decode cX0_plainSlot 16 = .ok (.invokevirtual 176, 3) := by decide +kernel
theorem dX0_plainSlot_19 : decode cX0_plainSlot 19 = .ok (.imul, 1) := by decide +kernel
theorem dX0_plainSlot_20 : decode cX0_plainSlot 20 = .ok (.iadd, 1) := by decide +kernel
theorem dX0_plainSlot_21 : decode cX0_plainSlot 21 = .ok (.istore 4, 2) := by decide +kernel
theorem dX0_plainSlot_23 : decode cX0_plainSlot 23 = .ok (.iload_n 2, 1) := by decide +kernel
theorem dX0_plainSlot_24 : decode cX0_plainSlot 24 = .ok (.ifCond .lt 15, 3) := by decide +kernel
theorem dX0_plainSlot_27 : decode cX0_plainSlot 27 = .ok (.iload_n 2, 1) := by decide +kernel
theorem dX0_plainSlot_28 : decode cX0_plainSlot 28 = .ok (.aload_n 0, 1) := by decide +kernel
theorem dX0_plainSlot_29 : decode cX0_plainSlot 29 = .ok (.iload_n 3, 1) := by decide +kernel
theorem dX0_plainSlot_30 : decode cX0_plainSlot 30 = .ok (.invokevirtual 181, 3) := by decide +kernel
theorem dX0_plainSlot_33 : decode cX0_plainSlot 33 = .ok (.iload 4, 2) := by decide +kernel
theorem dX0_plainSlot_35 : decode cX0_plainSlot 35 = .ok (.isub, 1) := by decide +kernel
theorem dX0_plainSlot_36 : decode cX0_plainSlot 36 = .ok (.if_icmp .lt 13, 3) := by decide +kernel
theorem dX0_plainSlot_39 : decode cX0_plainSlot 39 = .ok (.new 65, 3) := by decide +kernel
theorem dX0_plainSlot_42 : decode cX0_plainSlot 42 = .ok (.dup, 1) := by decide +kernel
theorem dX0_plainSlot_43 : decode cX0_plainSlot 43 = .ok (.ldc 184, 2) := by decide +kernel
theorem dX0_plainSlot_45 : decode cX0_plainSlot 45 = .ok (.invokespecial 69, 3) := by decide +kernel
theorem dX0_plainSlot_48 : decode cX0_plainSlot 48 = .ok (.athrow, 1) := by decide +kernel
theorem dX0_plainSlot_49 : decode cX0_plainSlot 49 = .ok (.iload_n 3, 1) := by decide +kernel
theorem dX0_plainSlot_50 : decode cX0_plainSlot 50 = .ok (.iload 4, 2) := by decide +kernel
theorem dX0_plainSlot_52 : decode cX0_plainSlot 52 = .ok (.iadd, 1) := by decide +kernel
theorem dX0_plainSlot_53 : decode cX0_plainSlot 53 = .ok (.iload_n 2, 1) := by decide +kernel
theorem dX0_plainSlot_54 : decode cX0_plainSlot 54 = .ok (.iadd, 1) := by decide +kernel
theorem dX0_plainSlot_55 : decode cX0_plainSlot 55 = .ok (.ireturn, 1) := by decide +kernel
theorem dX0_shapeOf_0 : decode cX0_shapeOf 0 = .ok (.iload_n 0, 1) := by decide +kernel
theorem dX0_shapeOf_1 : decode cX0_shapeOf 1 = .ok (.iload_n 1, 1) := by decide +kernel
theorem dX0_shapeOf_2 : decode cX0_shapeOf 2 = .ok (.iconst 4, 1) := by decide +kernel
theorem dX0_shapeOf_3 : decode cX0_shapeOf 3 = .ok (.ishl, 1) := by decide +kernel
theorem dX0_shapeOf_4 : decode cX0_shapeOf 4 = .ok (.ior, 1) := by decide +kernel
theorem dX0_shapeOf_5 : decode cX0_shapeOf 5 = .ok (.iload_n 2, 1) := by decide +kernel
theorem dX0_shapeOf_6 : decode cX0_shapeOf 6 = .ok (.bipush 8, 2) := by decide +kernel
theorem dX0_shapeOf_8 : decode cX0_shapeOf 8 = .ok (.ishl, 1) := by decide +kernel
theorem dX0_shapeOf_9 : decode cX0_shapeOf 9 = .ok (.ior, 1) := by decide +kernel
theorem dX0_shapeOf_10 : decode cX0_shapeOf 10 = .ok (.iload_n 3, 1) := by decide +kernel
theorem dX0_shapeOf_11 : decode cX0_shapeOf 11 = .ok (.bipush 12, 2) := by decide +kernel
theorem dX0_shapeOf_13 : decode cX0_shapeOf 13 = .ok (.ishl, 1) := by decide +kernel
theorem dX0_shapeOf_14 : decode cX0_shapeOf 14 = .ok (.ior, 1) := by decide +kernel
theorem dX0_shapeOf_15 : decode cX0_shapeOf 15 = .ok (.ireturn, 1) := by decide +kernel
theorem dX0_kindAt_0 : decode cX0_kindAt 0 = .ok (.iload_n 1, 1) := by decide +kernel
theorem dX0_kindAt_1 : decode cX0_kindAt 1 = .ok (.iconst (-1), 1) := by decide +kernel
theorem dX0_kindAt_2 : decode cX0_kindAt 2 = .ok (.if_icmp .ne 7, 3) := by decide +kernel
theorem dX0_kindAt_5 : decode cX0_kindAt 5 = .ok (.iconst 0, 1) := by decide +kernel
theorem dX0_kindAt_6 : decode cX0_kindAt 6 = .ok (.goto 14, 3) := by decide +kernel
theorem dX0_kindAt_9 : decode cX0_kindAt 9 = .ok (.aload_n 0, 1) := by decide +kernel
theorem dX0_kindAt_10 : decode cX0_kindAt 10 = .ok (.getfield 23, 3) := by decide +kernel
theorem dX0_kindAt_13 : decode cX0_kindAt 13 = .ok (.iload_n 1, 1) := by decide +kernel
theorem dX0_kindAt_14 : decode cX0_kindAt 14 = .ok (.iconst 0, 1) := by decide +kernel
theorem dX0_kindAt_15 : decode cX0_kindAt 15 = .ok (.iadd, 1) := by decide +kernel
theorem dX0_kindAt_16 : decode cX0_kindAt 16 = .ok (.iaload, 1) := by decide +kernel
theorem dX0_kindAt_17 : decode cX0_kindAt 17 = .ok (.bipush 15, 2) := by decide +kernel
theorem dX0_kindAt_19 : decode cX0_kindAt 19 = .ok (.iand, 1) := by decide +kernel
theorem dX0_kindAt_20 : decode cX0_kindAt 20 = .ok (.ireturn, 1) := by decide +kernel
theorem dX0_linksAt_0 : decode cX0_linksAt 0 = .ok (.aload_n 0, 1) := by decide +kernel
theorem dX0_linksAt_1 : decode cX0_linksAt 1 = .ok (.getfield 23, 3) := by decide +kernel
theorem dX0_linksAt_4 : decode cX0_linksAt 4 = .ok (.iload_n 1, 1) := by decide +kernel
theorem dX0_linksAt_5 : decode cX0_linksAt 5 = .ok (.iconst 0, 1) := by decide +kernel
theorem dX0_linksAt_6 : decode cX0_linksAt 6 = .ok (.iadd, 1) := by decide +kernel
theorem dX0_linksAt_7 : decode cX0_linksAt 7 = .ok (.iaload, 1) := by decide +kernel
theorem dX0_linksAt_8 : decode cX0_linksAt 8 = .ok (.iconst 4, 1) := by decide +kernel
theorem dX0_linksAt_9 : decode cX0_linksAt 9 = .ok (.ishr, 1) := by decide +kernel
theorem dX0_linksAt_10 : decode cX0_linksAt 10 = .ok (.bipush 15, 2) := by decide +kernel
theorem dX0_linksAt_12 : decode cX0_linksAt 12 = .ok (.iand, 1) := by decide +kernel
theorem dX0_linksAt_13 : decode cX0_linksAt 13 = .ok (.ireturn, 1) := by decide +kernel
theorem dX0_valuesAt_0 : decode cX0_valuesAt 0 = .ok (.aload_n 0, 1) := by decide +kernel
theorem dX0_valuesAt_1 : decode cX0_valuesAt 1 = .ok (.getfield 23, 3) := by decide +kernel
theorem dX0_valuesAt_4 : decode cX0_valuesAt 4 = .ok (.iload_n 1, 1) := by decide +kernel
theorem dX0_valuesAt_5 : decode cX0_valuesAt 5 = .ok (.iconst 0, 1) := by decide +kernel
theorem dX0_valuesAt_6 : decode cX0_valuesAt 6 = .ok (.iadd, 1) := by decide +kernel
theorem dX0_valuesAt_7 : decode cX0_valuesAt 7 = .ok (.iaload, 1) := by decide +kernel
theorem dX0_valuesAt_8 : decode cX0_valuesAt 8 = .ok (.bipush 8, 2) := by decide +kernel
theorem dX0_valuesAt_10 : decode cX0_valuesAt 10 = .ok (.ishr, 1) := by decide +kernel
theorem dX0_valuesAt_11 : decode cX0_valuesAt 11 = .ok (.bipush 15, 2) := by decide +kernel
theorem dX0_valuesAt_13 : decode cX0_valuesAt 13 = .ok (.iand, 1) := by decide +kernel
theorem dX0_valuesAt_14 : decode cX0_valuesAt 14 = .ok (.ireturn, 1) := by decide +kernel
theorem dX0_sizeAt_0 : decode cX0_sizeAt 0 = .ok (.aload_n 0, 1) := by decide +kernel
theorem dX0_sizeAt_1 : decode cX0_sizeAt 1 = .ok (.getfield 23, 3) := by decide +kernel
theorem dX0_sizeAt_4 : decode cX0_sizeAt 4 = .ok (.iload_n 1, 1) := by decide +kernel
theorem dX0_sizeAt_5 : decode cX0_sizeAt 5 = .ok (.iconst 0, 1) := by decide +kernel
theorem dX0_sizeAt_6 : decode cX0_sizeAt 6 = .ok (.iadd, 1) := by decide +kernel
theorem dX0_sizeAt_7 : decode cX0_sizeAt 7 = .ok (.iaload, 1) := by decide +kernel
theorem dX0_sizeAt_8 : decode cX0_sizeAt 8 = .ok (.bipush 12, 2) := by decide +kernel
theorem dX0_sizeAt_10 : decode cX0_sizeAt 10 = .ok (.ishr, 1) := by decide +kernel
theorem dX0_sizeAt_11 : decode cX0_sizeAt 11 = .ok (.ireturn, 1) := by decide +kernel
theorem dX0_isReference_0 : decode cX0_isReference 0 = .ok (.iload_n 0, 1) := by decide +kernel
theorem dX0_isReference_1 : decode cX0_isReference 1 = .ok (.bipush 16, 2) := by decide +kernel
theorem dX0_isReference_3 : decode cX0_isReference 3 = .ok (.iushr, 1) := by decide +kernel
theorem dX0_isReference_4 : decode cX0_isReference 4 = .ok (.ldc 186, 2) := by decide +kernel
theorem dX0_isReference_6 : decode cX0_isReference 6 = .ok (.if_icmp .ne 7, 3) := by decide +kernel
theorem dX0_isReference_9 : decode cX0_isReference 9 = .ok (.iconst 1, 1) := by decide +kernel
theorem dX0_isReference_10 : decode cX0_isReference 10 = .ok (.goto 4, 3) := by decide +kernel
theorem dX0_isReference_13 : decode cX0_isReference 13 = .ok (.iconst 0, 1) := by decide +kernel
theorem dX0_isReference_14 : decode cX0_isReference 14 = .ok (.ireturn, 1) := by decide +kernel
set_option maxRecDepth 20000 in
theorem ggX0_lengthAt_X0_linksAt : GoodIn wsX0_lengthAt wsX0_linksAt := goodIn_r _ [6, 1, 7, 8, 9, 10, 11, 12, 13, 14, 15, 16] (by decide +kernel) (by decide +kernel)
set_option maxRecDepth 20000 in
theorem gX0_lengthAt_X0_linksAt : GoodIn wsX0_lengthAt (wsV RX0 171 RX0 yX0_linksAt wsX0_linksAt) := goodIn_app (goodIn_of _ (by decide +kernel)) ggX0_lengthAt_X0_linksAt
theorem dX0_lengthAt_0 : decode cX0_lengthAt 0 = .ok (.aload_n 0, 1) := by decide +kernel
theorem dX0_lengthAt_1 : decode cX0_lengthAt 1 = .ok (.getfield 23, 3) := by decide +kernel
theorem dX0_lengthAt_4 : decode cX0_lengthAt 4 = .ok (.iload_n 1, 1) := by decide +kernel
theorem dX0_lengthAt_5 : decode cX0_lengthAt 5 = .ok (.iconst 3, 1) := by decide +kernel
theorem dX0_lengthAt_6 : decode cX0_lengthAt 6 = .ok (.iadd, 1) := by decide +kernel
theorem dX0_lengthAt_7 : decode cX0_lengthAt 7 = .ok (.aload_n 0, 1) := by decide +kernel
theorem dX0_lengthAt_8 : decode cX0_lengthAt 8 = .ok (.iload_n 1, 1) := by decide +kernel
theorem dX0_lengthAt_9 : decode cX0_lengthAt 9 = .ok (.invokevirtual 171, 3) := by decide +kernel
theorem dX0_lengthAt_12 : decode cX0_lengthAt 12 = .ok (.iadd, 1) := by decide +kernel
theorem dX0_lengthAt_13 : decode cX0_lengthAt 13 = .ok (.iaload, 1) := by decide +kernel
theorem dX0_lengthAt_14 : decode cX0_lengthAt 14 = .ok (.ireturn, 1) := by decide +kernel
set_option maxRecDepth 20000 in
theorem ggX0_putLength_X0_linksAt : GoodIn wsX0_putLength wsX0_linksAt := goodIn_r _ [6, 1, 7, 8, 9, 10, 11, 12, 13, 14, 15, 16] (by decide +kernel) (by decide +kernel)
set_option maxRecDepth 20000 in
theorem gX0_putLength_X0_linksAt : GoodIn wsX0_putLength (wsV RX0 171 RX0 yX0_linksAt wsX0_linksAt) := goodIn_app (goodIn_of _ (by decide +kernel)) ggX0_putLength_X0_linksAt
theorem dX0_putLength_0 : decode cX0_putLength 0 = .ok (.aload_n 0, 1) := by decide +kernel
theorem dX0_putLength_1 : decode cX0_putLength 1 = .ok (.getfield 23, 3) := by decide +kernel
theorem dX0_putLength_4 : decode cX0_putLength 4 = .ok (.iload_n 1, 1) := by decide +kernel
theorem dX0_putLength_5 : decode cX0_putLength 5 = .ok (.iconst 3, 1) := by decide +kernel
theorem dX0_putLength_6 : decode cX0_putLength 6 = .ok (.iadd, 1) := by decide +kernel
theorem dX0_putLength_7 : decode cX0_putLength 7 = .ok (.aload_n 0, 1) := by decide +kernel
theorem dX0_putLength_8 : decode cX0_putLength 8 = .ok (.iload_n 1, 1) := by decide +kernel
theorem dX0_putLength_9 : decode cX0_putLength 9 = .ok (.invokevirtual 171, 3) := by decide +kernel
theorem dX0_putLength_12 : decode cX0_putLength 12 = .ok (.iadd, 1) := by decide +kernel
theorem dX0_putLength_13 : decode cX0_putLength 13 = .ok (.iload_n 2, 1) := by decide +kernel
theorem dX0_putLength_14 : decode cX0_putLength 14 = .ok (.iastore, 1) := by decide +kernel
theorem dX0_putLength_15 : decode cX0_putLength 15 = .ok (.return_, 1) := by decide +kernel
set_option maxRecDepth 20000 in
theorem ggX0_lengthIn_X0_lengthAt : GoodIn wsX0_lengthIn wsX0_lengthAt := goodIn_r _ [6, 7, 8, 9, 10, 5, 11, 12, 13, 14, 15, 16, 17, 18, 19, 20, 21] (by decide +kernel) (by decide +kernel)
set_option maxRecDepth 20000 in
theorem gX0_lengthIn_X0_lengthAt : GoodIn wsX0_lengthIn (wsV RX0 187 RX0 yX0_lengthAt wsX0_lengthAt) := goodIn_app (goodIn_of _ (by decide +kernel)) ggX0_lengthIn_X0_lengthAt
theorem dX0_lengthIn_0 : decode cX0_lengthIn 0 = .ok (.aload_n 0, 1) := by decide +kernel
theorem dX0_lengthIn_1 : decode cX0_lengthIn 1 = .ok (.aload_n 0, 1) := by decide +kernel
theorem dX0_lengthIn_2 : decode cX0_lengthIn 2 = .ok (.getfield 30, 3) := by decide +kernel
theorem dX0_lengthIn_5 : decode cX0_lengthIn 5 = .ok (.iload_n 1, 1) := by decide +kernel
theorem dX0_lengthIn_6 : decode cX0_lengthIn 6 = .ok (.iaload, 1) := by decide +kernel
theorem dX0_lengthIn_7 : decode cX0_lengthIn 7 = .ok (.invokevirtual 187, 3) := by decide +kernel
theorem dX0_lengthIn_10 : decode cX0_lengthIn 10 = .ok (.ireturn, 1) := by decide +kernel
set_option maxRecDepth 20000 in
theorem ggX0_flatOf_X0_kindAt : GoodIn wsX0_flatOf wsX0_kindAt := goodIn_r _ [6, 1, 7, 8, 9, 10, 11, 12, 13, 14, 15, 16] (by decide +kernel) (by decide +kernel)
set_option maxRecDepth 20000 in
theorem gX0_flatOf_X0_kindAt : GoodIn wsX0_flatOf (wsV RX0 76 RX0 yX0_kindAt wsX0_kindAt) := goodIn_app (goodIn_of _ (by decide +kernel)) ggX0_flatOf_X0_kindAt
theorem dX0_flatOf_0 : decode cX0_flatOf 0 = .ok (.aload_n 0, 1) := by decide +kernel
theorem dX0_flatOf_1 : decode cX0_flatOf 1 = .ok (.iload_n 1, 1) := by decide +kernel
theorem dX0_flatOf_2 : decode cX0_flatOf 2 = .ok (.invokevirtual 76, 3) := by decide +kernel
theorem dX0_flatOf_5 : decode cX0_flatOf 5 = .ok (.iconst 4, 1) := by decide +kernel
theorem dX0_flatOf_6 : decode cX0_flatOf 6 = .ok (.if_icmp .ne 14, 3) := by decide +kernel
theorem dX0_flatOf_9 : decode cX0_flatOf 9 = .ok (.aload_n 0, 1) := by decide +kernel
theorem dX0_flatOf_10 : decode cX0_flatOf 10 = .ok (.getfield 23, 3) := by decide +kernel
theorem dX0_flatOf_13 : decode cX0_flatOf 13 = .ok (.iload_n 1, 1) := by decide +kernel
theorem dX0_flatOf_14 : decode cX0_flatOf 14 = .ok (.iconst 3, 1) := by decide +kernel
theorem dX0_flatOf_15 : decode cX0_flatOf 15 = .ok (.iadd, 1) := by decide +kernel
theorem dX0_flatOf_16 : decode cX0_flatOf 16 = .ok (.iaload, 1) := by decide +kernel
theorem dX0_flatOf_17 : decode cX0_flatOf 17 = .ok (.goto 4, 3) := by decide +kernel
theorem dX0_flatOf_20 : decode cX0_flatOf 20 = .ok (.iload_n 1, 1) := by decide +kernel
theorem dX0_flatOf_21 : decode cX0_flatOf 21 = .ok (.ireturn, 1) := by decide +kernel
theorem dX0_unitAt_0 : decode cX0_unitAt 0 = .ok (.aload_n 0, 1) := by decide +kernel
theorem dX0_unitAt_1 : decode cX0_unitAt 1 = .ok (.getfield 23, 3) := by decide +kernel
theorem dX0_unitAt_4 : decode cX0_unitAt 4 = .ok (.iload_n 1, 1) := by decide +kernel
theorem dX0_unitAt_5 : decode cX0_unitAt 5 = .ok (.iconst 4, 1) := by decide +kernel
theorem dX0_unitAt_6 : decode cX0_unitAt 6 = .ok (.iadd, 1) := by decide +kernel
theorem dX0_unitAt_7 : decode cX0_unitAt 7 = .ok (.iload_n 2, 1) := by decide +kernel
theorem dX0_unitAt_8 : decode cX0_unitAt 8 = .ok (.iconst 2, 1) := by decide +kernel
theorem dX0_unitAt_9 : decode cX0_unitAt 9 = .ok (.idiv, 1) := by decide +kernel
theorem dX0_unitAt_10 : decode cX0_unitAt 10 = .ok (.iadd, 1) := by decide +kernel
theorem dX0_unitAt_11 : decode cX0_unitAt 11 = .ok (.iaload, 1) := by decide +kernel
theorem dX0_unitAt_12 : decode cX0_unitAt 12 = .ok (.bipush 16, 2) := by decide +kernel
theorem dX0_unitAt_14 : decode cX0_unitAt 14 = .ok (.iload_n 2, 1) := by decide +kernel
theorem dX0_unitAt_15 : decode cX0_unitAt 15 = .ok (.iconst 2, 1) := by decide +kernel
theorem dX0_unitAt_16 : decode cX0_unitAt 16 = .ok (.irem, 1) := by decide +kernel
theorem dX0_unitAt_17 : decode cX0_unitAt 17 = .ok (.imul, 1) := by decide +kernel
theorem dX0_unitAt_18 : decode cX0_unitAt 18 = .ok (.iushr, 1) := by decide +kernel
theorem dX0_unitAt_19 : decode cX0_unitAt 19 = .ok (.ldc 107, 2) := by decide +kernel
theorem dX0_unitAt_21 : decode cX0_unitAt 21 = .ok (.iand, 1) := by decide +kernel
theorem dX0_unitAt_22 : decode cX0_unitAt 22 = .ok (.ireturn, 1) := by decide +kernel
theorem dX0_putUnit_0 : decode cX0_putUnit 0 = .ok (.aload_n 0, 1) := by decide +kernel
theorem dX0_putUnit_1 : decode cX0_putUnit 1 = .ok (.getfield 23, 3) := by decide +kernel
theorem dX0_putUnit_4 : decode cX0_putUnit 4 = .ok (.iload_n 1, 1) := by decide +kernel
theorem dX0_putUnit_5 : decode cX0_putUnit 5 = .ok (.iconst 4, 1) := by decide +kernel
theorem dX0_putUnit_6 : decode cX0_putUnit 6 = .ok (.iadd, 1) := by decide +kernel
theorem dX0_putUnit_7 : decode cX0_putUnit 7 = .ok (.iload_n 2, 1) := by decide +kernel
theorem dX0_putUnit_8 : decode cX0_putUnit 8 = .ok (.iconst 2, 1) := by decide +kernel
theorem dX0_putUnit_9 : decode cX0_putUnit 9 = .ok (.idiv, 1) := by decide +kernel
theorem dX0_putUnit_10 : decode cX0_putUnit 10 = .ok (.iadd, 1) := by decide +kernel
theorem dX0_putUnit_11 : decode cX0_putUnit 11 = .ok (.dup2, 1) := by decide +kernel
theorem dX0_putUnit_12 : decode cX0_putUnit 12 = .ok (.iaload, 1) := by decide +kernel
theorem dX0_putUnit_13 : decode cX0_putUnit 13 = .ok (.iload_n 3, 1) := by decide +kernel
theorem dX0_putUnit_14 : decode cX0_putUnit 14 = .ok (.bipush 16, 2) := by decide +kernel
theorem dX0_putUnit_16 : decode cX0_putUnit 16 = .ok (.iload_n 2, 1) := by decide +kernel
theorem dX0_putUnit_17 : decode cX0_putUnit 17 = .ok (.iconst 2, 1) := by decide +kernel
theorem dX0_putUnit_18 : decode cX0_putUnit 18 = .ok (.irem, 1) := by decide +kernel
theorem dX0_putUnit_19 : decode cX0_putUnit 19 = .ok (.imul, 1) := by decide +kernel
theorem dX0_putUnit_20 : decode cX0_putUnit 20 = .ok (.ishl, 1) := by decide +kernel
theorem dX0_putUnit_21 : decode cX0_putUnit 21 = .ok (.ior, 1) := by decide +kernel
theorem dX0_putUnit_22 : decode cX0_putUnit 22 = .ok (.iastore, 1) := by decide +kernel
theorem dX0_putUnit_23 : decode cX0_putUnit 23 = .ok (.return_, 1) := by decide +kernel
set_option maxRecDepth 20000 in
theorem ggX0_copyUnits_X0_unitAt : GoodIn wsX0_copyUnits wsX0_unitAt := goodIn_r _ [5, 6, 7, 12, 13, 14, 15, 16, 17, 18, 19, 20, 21] (by decide +kernel) (by decide +kernel)
set_option maxRecDepth 20000 in
theorem gX0_copyUnits_X0_unitAt : GoodIn wsX0_copyUnits (wsV RX0 143 RX0 yX0_unitAt wsX0_unitAt) := goodIn_app (goodIn_of _ (by decide +kernel)) ggX0_copyUnits_X0_unitAt
set_option maxRecDepth 20000 in
theorem ggX0_copyUnits_X0_putUnit : GoodIn wsX0_copyUnits wsX0_putUnit := goodIn_r _ [11, 6, 12, 13, 14, 15, 16, 17, 18, 19, 20, 21] (by decide +kernel) (by decide +kernel)
set_option maxRecDepth 20000 in
theorem gX0_copyUnits_X0_putUnit : GoodIn wsX0_copyUnits (wsV RX0 108 RX0 yX0_putUnit wsX0_putUnit) := goodIn_app (goodIn_of _ (by decide +kernel)) ggX0_copyUnits_X0_putUnit
theorem dX0_copyUnits_0 : decode cX0_copyUnits 0 = .ok (.iload_n 2, 1) := by decide +kernel
theorem dX0_copyUnits_1 : decode cX0_copyUnits 1 = .ok (.istore 6, 2) := by decide +kernel
theorem dX0_copyUnits_3 : decode cX0_copyUnits 3 = .ok (.iload 6, 2) := by decide +kernel
theorem dX0_copyUnits_5 : decode cX0_copyUnits 5 = .ok (.iload_n 3, 1) := by decide +kernel
theorem dX0_copyUnits_6 : decode cX0_copyUnits 6 = .ok (.if_icmp .ge 29, 3) := by decide +kernel
theorem dX0_copyUnits_9 : decode cX0_copyUnits 9 = .ok (.aload_n 0, 1) := by decide +kernel
theorem dX0_copyUnits_10 : decode cX0_copyUnits 10 = .ok (.iload 4, 2) := by decide +kernel
theorem dX0_copyUnits_12 : decode cX0_copyUnits 12 = .ok (.iload 5, 2) := by decide +kernel
theorem dX0_copyUnits_14 : decode cX0_copyUnits 14 = .ok (.iload 6, 2) := by decide +kernel
theorem dX0_copyUnits_16 : decode cX0_copyUnits 16 = .ok (.iadd, 1) := by decide +kernel
theorem dX0_copyUnits_17 : decode cX0_copyUnits 17 = .ok (.iload_n 2, 1) := by decide +kernel
theorem dX0_copyUnits_18 : decode cX0_copyUnits 18 = .ok (.isub, 1) := by decide +kernel
theorem dX0_copyUnits_19 : decode cX0_copyUnits 19 = .ok (.aload_n 0, 1) := by decide +kernel
theorem dX0_copyUnits_20 : decode cX0_copyUnits 20 = .ok (.iload_n 1, 1) := by decide +kernel
theorem dX0_copyUnits_21 : decode cX0_copyUnits 21 = .ok (.iload 6, 2) := by decide +kernel
theorem dX0_copyUnits_23 : decode cX0_copyUnits 23 = .ok (.invokevirtual 143, 3) := by decide +kernel
theorem dX0_copyUnits_26 : decode cX0_copyUnits 26 = .ok (.invokevirtual 108, 3) := by decide +kernel
theorem dX0_copyUnits_29 : decode cX0_copyUnits 29 = .ok (.iinc 6 1, 3) := by decide +kernel
theorem dX0_copyUnits_32 : decode cX0_copyUnits 32 = .ok (.goto (-29), 3) := by decide +kernel
theorem dX0_copyUnits_35 : decode cX0_copyUnits 35 = .ok (.return_, 1) := by decide +kernel
set_option maxRecDepth 20000 in
theorem ggX0_makeFlat_X0_make : GoodIn wsX0_makeFlat wsX0_make := goodIn_ca (goodIn_r _ [5, 6, 7, 8, 9, 10, 11, 12, 13, 14, 4, 15, 16, 17, 18, 19, 20, 21, 22, 23, 24, 25, 26, 27, 28, 29, 30, 31, 32, 33, 34, 35, 36, 37, 38, 39, 40, 41, 42, 43, 44, 45, 46, 47, 48, 49, 50, 51, 52, 53, 54, 55, 56, 57, 58, 59, 60, 61, 62, 63, 64, 65, 66, 67, 68, 69, 70, 71, 72, 73, 74, 75, 76, 77, 78, 79, 80, 81, 82, 83, 84, 85, 86, 87, 88, 89, 90, 91, 92, 93, 94, 95, 96, 97, 98, 99, 100, 101, 102, 103, 104, 109, 110, 111, 112, 113, 114, 115, 116, 117, 118, 119, 120, 121, 122] (by decide +kernel) (by decide +kernel)) (goodIn_sub (fun _ h => List.mem_cons_of_mem _ (List.mem_append_right _ h)) (by decide +kernel))
set_option maxRecDepth 20000 in
theorem gX0_makeFlat_X0_make : GoodIn wsX0_makeFlat (wsV RX0 72 RX0 yX0_make wsX0_make) := goodIn_app (goodIn_of _ (by decide +kernel)) ggX0_makeFlat_X0_make
set_option maxRecDepth 20000 in
theorem ggX0_makeFlat_X0_putLength : GoodIn wsX0_makeFlat wsX0_putLength := goodIn_r _ [108, 8, 39, 40, 41, 4, 42, 109, 110, 111, 112, 113, 114, 115, 116, 117, 118] (by decide +kernel) (by decide +kernel)
set_option maxRecDepth 20000 in
theorem gX0_makeFlat_X0_putLength : GoodIn wsX0_makeFlat (wsV RX0 190 RX0 yX0_putLength wsX0_putLength) := goodIn_app (goodIn_of _ (by decide +kernel)) ggX0_makeFlat_X0_putLength
theorem dX0_makeFlat_0 : decode cX0_makeFlat 0 = .ok (.aload_n 0, 1) := by decide +kernel
theorem dX0_makeFlat_1 : decode cX0_makeFlat 1 = .ok (.iload_n 1, 1) := by decide +kernel
theorem dX0_makeFlat_2 : decode cX0_makeFlat 2 = .ok (.iconst 0, 1) := by decide +kernel
theorem dX0_makeFlat_3 : decode cX0_makeFlat 3 = .ok (.iconst 0, 1) := by decide +kernel
theorem dX0_makeFlat_4 : decode cX0_makeFlat 4 = .ok (.iconst 1, 1) := by decide +kernel
theorem dX0_makeFlat_5 : decode cX0_makeFlat 5 = .ok (.iload_n 2, 1) := by decide +kernel
theorem dX0_makeFlat_6 : decode cX0_makeFlat 6 = .ok (.iconst 1, 1) := by decide +kernel
theorem dX0_makeFlat_7 : decode cX0_makeFlat 7 = .ok (.iadd, 1) := by decide +kernel
theorem dX0_makeFlat_8 : decode cX0_makeFlat 8 = .ok (.iconst 2, 1) := by decide +kernel
theorem dX0_makeFlat_9 : decode cX0_makeFlat 9 = .ok (.idiv, 1) := by decide +kernel
theorem dX0_makeFlat_10 : decode cX0_makeFlat 10 = .ok (.iadd, 1) := by decide +kernel
theorem dX0_makeFlat_11 : decode cX0_makeFlat 11 = .ok (.invokevirtual 72, 3) := by decide +kernel
theorem dX0_makeFlat_14 : decode cX0_makeFlat 14 = .ok (.istore_n 3, 1) := by decide +kernel
theorem dX0_makeFlat_15 : decode cX0_makeFlat 15 = .ok (.aload_n 0, 1) := by decide +kernel
theorem dX0_makeFlat_16 : decode cX0_makeFlat 16 = .ok (.iload_n 3, 1) := by decide +kernel
theorem dX0_makeFlat_17 : decode cX0_makeFlat 17 = .ok (.iload_n 2, 1) := by decide +kernel
theorem dX0_makeFlat_18 : decode cX0_makeFlat 18 = .ok (.invokevirtual 190, 3) := by decide +kernel
theorem dX0_makeFlat_21 : decode cX0_makeFlat 21 = .ok (.iload_n 3, 1) := by decide +kernel
theorem dX0_makeFlat_22 : decode cX0_makeFlat 22 = .ok (.ireturn, 1) := by decide +kernel
set_option maxRecDepth 20000 in
theorem ggX0_makeFlatOfTwo_X0_lengthIn : GoodIn wsX0_makeFlatOfTwo wsX0_lengthIn := goodIn_r _ [6, 1, 7, 8, 9, 5, 10, 11, 12, 13, 14, 15, 134, 135, 136, 137, 138, 139, 140, 141, 142, 143] (by decide +kernel) (by decide +kernel)
set_option maxRecDepth 20000 in
theorem gX0_makeFlatOfTwo_X0_lengthIn : GoodIn wsX0_makeFlatOfTwo (wsV RX0 115 RX0 yX0_lengthIn wsX0_lengthIn) := goodIn_app (goodIn_of _ (by decide +kernel)) ggX0_makeFlatOfTwo_X0_lengthIn
set_option maxRecDepth 20000 in
theorem ggX0_makeFlatOfTwo_X0_makeFlat : GoodIn wsX0_makeFlatOfTwo wsX0_makeFlat := goodIn_ca (goodIn_r _ [19, 20, 21, 22, 5, 23, 24, 25, 11, 26, 27, 28, 29, 30, 31, 32, 33, 34, 35, 36, 37, 38, 39, 40, 41, 42, 43, 44, 45, 46, 1, 47, 48, 49, 50, 51, 52, 53, 54, 12, 13, 14, 15, 55, 56, 57, 58, 59, 60, 61, 62, 63, 64, 65, 66, 67, 68, 69, 70, 71, 72, 73, 74, 75, 76, 77, 78, 79, 80, 81, 82, 83, 84, 85, 86, 87, 88, 89, 90, 91, 92, 93, 94, 95, 96, 97, 98, 99, 100, 101, 102, 103, 104, 105, 106, 107, 108, 109, 110, 111, 112, 113, 114, 115, 116, 117, 118, 119, 120, 134, 135, 136, 137, 138, 139, 140, 141, 142, 143, 144, 145, 146, 147] (by decide +kernel) (by decide +kernel)) (goodIn_sub (fun _ h => List.mem_cons_of_mem _ (List.mem_append_right _ h)) (by decide +kernel))
set_option maxRecDepth 20000 in
theorem gX0_makeFlatOfTwo_X0_makeFlat : GoodIn wsX0_makeFlatOfTwo (wsV RX0 104 RX0 yX0_makeFlat wsX0_makeFlat) := goodIn_app (goodIn_of _ (by decide +kernel)) ggX0_makeFlatOfTwo_X0_makeFlat
set_option maxRecDepth 20000 in
theorem ggX0_makeFlatOfTwo_X0_copyUnits : GoodIn wsX0_makeFlatOfTwo wsX0_copyUnits := goodIn_r _ [124, 125, 126, 127, 5, 128, 11, 129, 130, 131, 132, 133, 134, 135, 136, 137, 138, 139, 140, 141, 142, 143] (by decide +kernel) (by decide +kernel)
set_option maxRecDepth 20000 in
theorem gX0_makeFlatOfTwo_X0_copyUnits : GoodIn wsX0_makeFlatOfTwo (wsV RX0 137 RX0 yX0_copyUnits wsX0_copyUnits) := goodIn_app (goodIn_of _ (by decide +kernel)) ggX0_makeFlatOfTwo_X0_copyUnits
theorem dX0_makeFlatOfTwo_0 : decode cX0_makeFlatOfTwo 0 = .ok (.aload_n 0, 1) := by decide +kernel
theorem dX0_makeFlatOfTwo_1 : decode cX0_makeFlatOfTwo 1 = .ok (.iload_n 1, 1) := by decide +kernel
theorem dX0_makeFlatOfTwo_2 : decode cX0_makeFlatOfTwo 2 = .ok (.invokevirtual 115, 3) := by decide +kernel
theorem dX0_makeFlatOfTwo_5 : decode cX0_makeFlatOfTwo 5 = .ok (.istore_n 3, 1) := by decide +kernel
theorem dX0_makeFlatOfTwo_6 : decode cX0_makeFlatOfTwo 6 = .ok (.aload_n 0, 1) := by decide +kernel
theorem dX0_makeFlatOfTwo_7 : decode cX0_makeFlatOfTwo 7 = .ok (.iload_n 2, 1) := by decide +kernel
theorem dX0_makeFlatOfTwo_8 : decode cX0_makeFlatOfTwo 8 = .ok (.invokevirtual 115, 3) := by decide +kernel
theorem dX0_makeFlatOfTwo_11 : decode cX0_makeFlatOfTwo 11 = .ok (.istore 4, 2) := by decide +kernel
theorem dX0_makeFlatOfTwo_13 : decode cX0_makeFlatOfTwo 13 = .ok (.aload_n 0, 1) := by decide +kernel
theorem dX0_makeFlatOfTwo_14 : decode cX0_makeFlatOfTwo 14 = .ok (.iconst 2, 1) := by decide +kernel
theorem dX0_makeFlatOfTwo_15 : decode cX0_makeFlatOfTwo 15 = .ok (.iload_n 3, 1) := by decide +kernel
theorem dX0_makeFlatOfTwo_16 : decode cX0_makeFlatOfTwo 16 = .ok (.iload 4, 2) := by decide +kernel
theorem dX0_makeFlatOfTwo_18 : decode cX0_makeFlatOfTwo 18 = .ok (.iadd, 1) := by decide +kernel
theorem dX0_makeFlatOfTwo_19 : decode cX0_makeFlatOfTwo 19 = .ok (.invokevirtual 104, 3) := by decide +kernel
theorem dX0_makeFlatOfTwo_22 : decode cX0_makeFlatOfTwo 22 = .ok (.istore 5, 2) := by decide +kernel
theorem dX0_makeFlatOfTwo_24 : decode cX0_makeFlatOfTwo 24 = .ok (.aload_n 0, 1) := by decide +kernel
theorem dX0_makeFlatOfTwo_25 : decode cX0_makeFlatOfTwo 25 = .ok (.aload_n 0, 1) := by decide +kernel
theorem dX0_makeFlatOfTwo_26 : decode cX0_makeFlatOfTwo 26 = .ok (.getfield 30, 3) := by decide +kernel
theorem dX0_makeFlatOfTwo_29 : decode cX0_makeFlatOfTwo 29 = .ok (.iload_n 1, 1) := by decide +kernel
theorem dX0_makeFlatOfTwo_30 : decode cX0_makeFlatOfTwo 30 = .ok (.iaload, 1) := by decide +kernel
theorem dX0_makeFlatOfTwo_31 : decode cX0_makeFlatOfTwo 31 = .ok (.iconst 0, 1) := by decide +kernel
theorem dX0_makeFlatOfTwo_32 : decode cX0_makeFlatOfTwo 32 = .ok (.iload_n 3, 1) := by decide +kernel
theorem dX0_makeFlatOfTwo_33 : decode cX0_makeFlatOfTwo 33 = .ok (.iload 5, 2) := by decide +kernel
theorem dX0_makeFlatOfTwo_35 : decode cX0_makeFlatOfTwo 35 = .ok (.iconst 0, 1) := by decide +kernel
theorem dX0_makeFlatOfTwo_36 : decode cX0_makeFlatOfTwo 36 = .ok (.invokevirtual 137, 3) := by decide +kernel
theorem dX0_makeFlatOfTwo_39 : decode cX0_makeFlatOfTwo 39 = .ok (.aload_n 0, 1) := by decide +kernel
theorem dX0_makeFlatOfTwo_40 : decode cX0_makeFlatOfTwo 40 = .ok (.aload_n 0, 1) := by decide +kernel
theorem dX0_makeFlatOfTwo_41 : decode cX0_makeFlatOfTwo 41 = .ok (.getfield 30, 3) := by decide +kernel
theorem dX0_makeFlatOfTwo_44 : decode cX0_makeFlatOfTwo 44 = .ok (.iload_n 2, 1) := by decide +kernel
theorem dX0_makeFlatOfTwo_45 : decode cX0_makeFlatOfTwo 45 = .ok (.iaload, 1) := by decide +kernel
theorem dX0_makeFlatOfTwo_46 : decode cX0_makeFlatOfTwo 46 = .ok (.iconst 0, 1) := by decide +kernel
theorem dX0_makeFlatOfTwo_47 : decode cX0_makeFlatOfTwo 47 = .ok (.iload 4, 2) := by decide +kernel
theorem dX0_makeFlatOfTwo_49 : decode cX0_makeFlatOfTwo 49 = .ok (.iload 5, 2) := by decide +kernel
theorem dX0_makeFlatOfTwo_51 : decode cX0_makeFlatOfTwo 51 = .ok (.iload_n 3, 1) := by decide +kernel
theorem dX0_makeFlatOfTwo_52 : decode cX0_makeFlatOfTwo 52 = .ok (.invokevirtual 137, 3) := by decide +kernel
theorem dX0_makeFlatOfTwo_55 : decode cX0_makeFlatOfTwo 55 = .ok (.iload 5, 2) := by decide +kernel
theorem dX0_makeFlatOfTwo_57 : decode cX0_makeFlatOfTwo 57 = .ok (.ireturn, 1) := by decide +kernel
