theorem dL_cell_0 : decode cL_cell 0 = .ok (.iload_n 1, 1) := by decide +kernel
theorem dL_cell_1 : decode cL_cell 1 = .ok (.aload_n 0, 1) := by decide +kernel
theorem dL_cell_2 : decode cL_cell 2 = .ok (.arraylength, 1) := by decide +kernel
theorem dL_cell_3 : decode cL_cell 3 = .ok (.if_icmp .ge 9, 3) := by decide +kernel
theorem dL_cell_6 : decode cL_cell 6 = .ok (.aload_n 0, 1) := by decide +kernel
theorem dL_cell_7 : decode cL_cell 7 = .ok (.iload_n 1, 1) := by decide +kernel
theorem dL_cell_8 : decode cL_cell 8 = .ok (.iaload, 1) := by decide +kernel
theorem dL_cell_9 : decode cL_cell 9 = .ok (.goto 4, 3) := by decide +kernel
theorem dL_cell_12 : decode cL_cell 12 = .ok (.iconst 0, 1) := by decide +kernel
theorem dL_cell_13 : decode cL_cell 13 = .ok (.ireturn, 1) := by decide +kernel
set_option maxRecDepth 20000 in
theorem ggL_take_X0_take : GoodIn wsL_take wsX0_take := goodIn_ca (goodIn_ca (goodIn_r _ [7, 8, 9, 10, 11, 12, 6, 13, 14, 15, 16, 17, 18, 19, 20, 21, 22, 23, 24, 25, 26, 27, 28, 29, 30, 31, 32, 33, 34, 35, 36, 37, 38, 39, 40, 41, 42, 43, 44, 45, 46, 47, 48, 49, 50, 51, 52, 53, 54, 55, 56, 57, 58, 59, 60, 61, 62, 63, 64, 65, 66, 67, 68, 69, 70, 71, 72, 73, 74, 75, 76, 77, 78, 79, 80, 81, 82, 83, 84, 85, 86, 87, 88, 89, 90, 91, 92, 93, 94, 95, 96, 97, 98, 99, 100, 101, 102, 103, 104, 105, 106, 107, 108, 109, 110, 111, 112, 113, 114, 115, 116, 117, 118, 119, 120, 121, 122, 123, 124, 125, 126, 127, 128, 129, 130, 131, 132] (by decide +kernel) (by decide +kernel)) (goodIn_sub (fun _ h => List.mem_cons_of_mem _ (List.mem_append_left _ (List.mem_append_right _ h))) (by decide +kernel))) (goodIn_sub (fun _ h => List.mem_cons_of_mem _ (List.mem_append_right _ h)) (by decide +kernel))
set_option maxRecDepth 20000 in
theorem gL_take_X0_take : GoodIn wsL_take (wsV RL 7 RX0 yX0_take wsX0_take) := goodIn_app (goodIn_of _ (by decide +kernel)) ggL_take_X0_take
theorem dL_take_0 : decode cL_take 0 = .ok (.aload_n 0, 1) := by decide +kernel
theorem dL_take_1 : decode cL_take 1 = .ok (.iload_n 1, 1) := by decide +kernel
theorem dL_take_2 : decode cL_take 2 = .ok (.iload_n 2, 1) := by decide +kernel
theorem dL_take_3 : decode cL_take 3 = .ok (.iload_n 3, 1) := by decide +kernel
theorem dL_take_4 : decode cL_take 4 = .ok (.iload 4, 2) := by decide +kernel
theorem dL_take_6 : decode cL_take 6 = .ok (.invokevirtual 7, 3) := by decide +kernel
theorem dL_take_9 : decode cL_take 9 = .ok (.goto 11, 3) := by decide +kernel
theorem dL_take_12 : decode cL_take 12 = .ok (.astore 5, 2) := by decide +kernel
theorem dL_take_14 : decode cL_take 14 = .ok (.iconst 1, 1) := by decide +kernel
theorem dL_take_15 : decode cL_take 15 = .ok (.ireturn, 1) := by decide +kernel
theorem dL_take_16 : decode cL_take 16 = .ok (.astore 5, 2) := by decide +kernel
theorem dL_take_18 : decode cL_take 18 = .ok (.iconst 2, 1) := by decide +kernel
theorem dL_take_19 : decode cL_take 19 = .ok (.ireturn, 1) := by decide +kernel
theorem dL_take_20 : decode cL_take 20 = .ok (.iconst 0, 1) := by decide +kernel
theorem dL_take_21 : decode cL_take 21 = .ok (.ireturn, 1) := by decide +kernel
set_option maxRecDepth 20000 in
theorem ggL_copy_X0_copy : GoodIn wsL_copy wsX0_copy := goodIn_ca (goodIn_r _ [6, 7, 8, 9, 5, 10, 11, 12, 13, 14, 15, 16, 17, 18, 19, 20, 21, 22] (by decide +kernel) (by decide +kernel)) (goodIn_sub (fun _ h => List.mem_cons_of_mem _ (List.mem_append_right _ h)) (by decide +kernel))
set_option maxRecDepth 20000 in
theorem gL_copy_X0_copy : GoodIn wsL_copy (wsV RL 17 RX0 yX0_copy wsX0_copy) := goodIn_app (goodIn_of _ (by decide +kernel)) ggL_copy_X0_copy
theorem dL_copy_0 : decode cL_copy 0 = .ok (.aload_n 0, 1) := by decide +kernel
theorem dL_copy_1 : decode cL_copy 1 = .ok (.iload_n 1, 1) := by decide +kernel
theorem dL_copy_2 : decode cL_copy 2 = .ok (.iload_n 2, 1) := by decide +kernel
theorem dL_copy_3 : decode cL_copy 3 = .ok (.invokevirtual 17, 3) := by decide +kernel
theorem dL_copy_6 : decode cL_copy 6 = .ok (.goto 6, 3) := by decide +kernel
theorem dL_copy_9 : decode cL_copy 9 = .ok (.astore_n 3, 1) := by decide +kernel
theorem dL_copy_10 : decode cL_copy 10 = .ok (.iconst 1, 1) := by decide +kernel
theorem dL_copy_11 : decode cL_copy 11 = .ok (.ireturn, 1) := by decide +kernel
theorem dL_copy_12 : decode cL_copy 12 = .ok (.iconst 0, 1) := by decide +kernel
theorem dL_copy_13 : decode cL_copy 13 = .ok (.ireturn, 1) := by decide +kernel
set_option maxRecDepth 20000 in
theorem ggL_drop_X0_drop : GoodIn wsL_drop wsX0_drop := goodIn_ca (goodIn_r _ [6, 7, 8, 9, 5, 10, 11, 12, 13, 14, 15, 16, 17, 18, 19, 20, 21, 22] (by decide +kernel) (by decide +kernel)) (goodIn_sub (fun _ h => List.mem_cons_of_mem _ (List.mem_append_right _ h)) (by decide +kernel))
set_option maxRecDepth 20000 in
theorem gL_drop_X0_drop : GoodIn wsL_drop (wsV RL 21 RX0 yX0_drop wsX0_drop) := goodIn_app (goodIn_of _ (by decide +kernel)) ggL_drop_X0_drop
theorem dL_drop_0 : decode cL_drop 0 = .ok (.aload_n 0, 1) := by decide +kernel
theorem dL_drop_1 : decode cL_drop 1 = .ok (.iload_n 1, 1) := by decide +kernel
theorem dL_drop_2 : decode cL_drop 2 = .ok (.invokevirtual 21, 3) := by decide +kernel
theorem dL_drop_5 : decode cL_drop 5 = .ok (.goto 6, 3) := by decide +kernel
theorem dL_drop_8 : decode cL_drop 8 = .ok (.astore_n 2, 1) := by decide +kernel
theorem dL_drop_9 : decode cL_drop 9 = .ok (.iconst 1, 1) := by decide +kernel
theorem dL_drop_10 : decode cL_drop 10 = .ok (.ireturn, 1) := by decide +kernel
theorem dL_drop_11 : decode cL_drop 11 = .ok (.iconst 0, 1) := by decide +kernel
theorem dL_drop_12 : decode cL_drop 12 = .ok (.ireturn, 1) := by decide +kernel
set_option maxRecDepth 20000 in
theorem ggL_kind_X0_kind : GoodIn wsL_kind wsX0_kind := goodIn_ca (goodIn_r _ [6, 7, 8, 9, 5, 10, 11, 12, 13, 14, 15, 16, 17, 18, 19, 20, 21, 22, 23, 24, 25, 26, 27] (by decide +kernel) (by decide +kernel)) (goodIn_sub (fun _ h => List.mem_cons_of_mem _ (List.mem_append_right _ h)) (by decide +kernel))
set_option maxRecDepth 20000 in
theorem gL_kind_X0_kind : GoodIn wsL_kind (wsV RL 25 RX0 yX0_kind wsX0_kind) := goodIn_app (goodIn_of _ (by decide +kernel)) ggL_kind_X0_kind
theorem dL_kind_0 : decode cL_kind 0 = .ok (.aload_n 2, 1) := by decide +kernel
theorem dL_kind_1 : decode cL_kind 1 = .ok (.iconst 0, 1) := by decide +kernel
theorem dL_kind_2 : decode cL_kind 2 = .ok (.aload_n 0, 1) := by decide +kernel
theorem dL_kind_3 : decode cL_kind 3 = .ok (.iload_n 1, 1) := by decide +kernel
theorem dL_kind_4 : decode cL_kind 4 = .ok (.invokevirtual 25, 3) := by decide +kernel
theorem dL_kind_7 : decode cL_kind 7 = .ok (.i2l, 1) := by decide +kernel
theorem dL_kind_8 : decode cL_kind 8 = .ok (.lastore, 1) := by decide +kernel
theorem dL_kind_9 : decode cL_kind 9 = .ok (.goto 6, 3) := by decide +kernel
theorem dL_kind_12 : decode cL_kind 12 = .ok (.astore_n 3, 1) := by decide +kernel
theorem dL_kind_13 : decode cL_kind 13 = .ok (.iconst 1, 1) := by decide +kernel
theorem dL_kind_14 : decode cL_kind 14 = .ok (.ireturn, 1) := by decide +kernel
theorem dL_kind_15 : decode cL_kind 15 = .ok (.iconst 0, 1) := by decide +kernel
theorem dL_kind_16 : decode cL_kind 16 = .ok (.ireturn, 1) := by decide +kernel
set_option maxRecDepth 20000 in
theorem ggL_same_X0_same : GoodIn wsL_same wsX0_same := goodIn_ca (goodIn_r _ [6, 7, 8, 9, 5, 10, 11, 12, 13, 14, 15, 16, 17, 18, 19, 20, 21, 22] (by decide +kernel) (by decide +kernel)) (goodIn_sub (fun _ h => List.mem_cons_of_mem _ (List.mem_append_right _ h)) (by decide +kernel))
set_option maxRecDepth 20000 in
theorem gL_same_X0_same : GoodIn wsL_same (wsV RL 29 RX0 yX0_same wsX0_same) := goodIn_app (goodIn_of _ (by decide +kernel)) ggL_same_X0_same
theorem dL_same_0 : decode cL_same 0 = .ok (.aload_n 3, 1) := by decide +kernel
theorem dL_same_1 : decode cL_same 1 = .ok (.iconst 0, 1) := by decide +kernel
theorem dL_same_2 : decode cL_same 2 = .ok (.aload_n 0, 1) := by decide +kernel
theorem dL_same_3 : decode cL_same 3 = .ok (.iload_n 1, 1) := by decide +kernel
theorem dL_same_4 : decode cL_same 4 = .ok (.iload_n 2, 1) := by decide +kernel
theorem dL_same_5 : decode cL_same 5 = .ok (.invokevirtual 29, 3) := by decide +kernel
theorem dL_same_8 : decode cL_same 8 = .ok (.ifCond .eq 7, 3) := by decide +kernel
theorem dL_same_11 : decode cL_same 11 = .ok (.lconst 1, 1) := by decide +kernel
theorem dL_same_12 : decode cL_same 12 = .ok (.goto 4, 3) := by decide +kernel
theorem dL_same_15 : decode cL_same 15 = .ok (.lconst 0, 1) := by decide +kernel
theorem dL_same_16 : decode cL_same 16 = .ok (.lastore, 1) := by decide +kernel
theorem dL_same_17 : decode cL_same 17 = .ok (.goto 7, 3) := by decide +kernel
theorem dL_same_20 : decode cL_same 20 = .ok (.astore 4, 2) := by decide +kernel
theorem dL_same_22 : decode cL_same 22 = .ok (.iconst 1, 1) := by decide +kernel
theorem dL_same_23 : decode cL_same 23 = .ok (.ireturn, 1) := by decide +kernel
theorem dL_same_24 : decode cL_same 24 = .ok (.iconst 0, 1) := by decide +kernel
theorem dL_same_25 : decode cL_same 25 = .ok (.ireturn, 1) := by decide +kernel
set_option maxRecDepth 20000 in
theorem ggL_tie_X0_tie : GoodIn wsL_tie wsX0_tie := goodIn_ca (goodIn_r _ [6, 7, 8, 9, 10, 11, 5, 12, 13, 14, 15, 16, 17, 18, 19, 20, 21, 22, 23, 24, 25, 26, 27, 28, 29, 30, 31, 32, 33, 34, 35, 36, 37, 38, 39] (by decide +kernel) (by decide +kernel)) (goodIn_sub (fun _ h => List.mem_cons_of_mem _ (List.mem_append_right _ h)) (by decide +kernel))
set_option maxRecDepth 20000 in
theorem gL_tie_X0_tie : GoodIn wsL_tie (wsV RL 33 RX0 yX0_tie wsX0_tie) := goodIn_app (goodIn_of _ (by decide +kernel)) ggL_tie_X0_tie
theorem dL_tie_0 : decode cL_tie 0 = .ok (.aload_n 0, 1) := by decide +kernel
theorem dL_tie_1 : decode cL_tie 1 = .ok (.iload_n 1, 1) := by decide +kernel
theorem dL_tie_2 : decode cL_tie 2 = .ok (.iload_n 2, 1) := by decide +kernel
theorem dL_tie_3 : decode cL_tie 3 = .ok (.iload_n 3, 1) := by decide +kernel
theorem dL_tie_4 : decode cL_tie 4 = .ok (.invokevirtual 33, 3) := by decide +kernel
theorem dL_tie_7 : decode cL_tie 7 = .ok (.goto 7, 3) := by decide +kernel
theorem dL_tie_10 : decode cL_tie 10 = .ok (.astore 4, 2) := by decide +kernel
theorem dL_tie_12 : decode cL_tie 12 = .ok (.iconst 1, 1) := by decide +kernel
theorem dL_tie_13 : decode cL_tie 13 = .ok (.ireturn, 1) := by decide +kernel
theorem dL_tie_14 : decode cL_tie 14 = .ok (.iconst 0, 1) := by decide +kernel
theorem dL_tie_15 : decode cL_tie 15 = .ok (.ireturn, 1) := by decide +kernel
set_option maxRecDepth 20000 in
theorem ggL_lead_X0_lead : GoodIn wsL_lead wsX0_lead := goodIn_ca (goodIn_r _ [6, 7, 8, 9, 10, 11, 5, 12, 13, 14, 15, 16, 17, 18, 19, 20, 21, 22, 23, 24, 25, 26, 27, 28, 29, 30, 31, 32, 33, 34, 35, 36, 37, 38, 39] (by decide +kernel) (by decide +kernel)) (goodIn_sub (fun _ h => List.mem_cons_of_mem _ (List.mem_append_right _ h)) (by decide +kernel))
set_option maxRecDepth 20000 in
theorem gL_lead_X0_lead : GoodIn wsL_lead (wsV RL 37 RX0 yX0_lead wsX0_lead) := goodIn_app (goodIn_of _ (by decide +kernel)) ggL_lead_X0_lead
theorem dL_lead_0 : decode cL_lead 0 = .ok (.aload_n 0, 1) := by decide +kernel
theorem dL_lead_1 : decode cL_lead 1 = .ok (.iload_n 1, 1) := by decide +kernel
theorem dL_lead_2 : decode cL_lead 2 = .ok (.iload_n 2, 1) := by decide +kernel
theorem dL_lead_3 : decode cL_lead 3 = .ok (.iload_n 3, 1) := by decide +kernel
theorem dL_lead_4 : decode cL_lead 4 = .ok (.invokevirtual 37, 3) := by decide +kernel
theorem dL_lead_7 : decode cL_lead 7 = .ok (.goto 7, 3) := by decide +kernel
theorem dL_lead_10 : decode cL_lead 10 = .ok (.astore 4, 2) := by decide +kernel
theorem dL_lead_12 : decode cL_lead 12 = .ok (.iconst 1, 1) := by decide +kernel
theorem dL_lead_13 : decode cL_lead 13 = .ok (.ireturn, 1) := by decide +kernel
theorem dL_lead_14 : decode cL_lead 14 = .ok (.iconst 0, 1) := by decide +kernel
theorem dL_lead_15 : decode cL_lead 15 = .ok (.ireturn, 1) := by decide +kernel
set_option maxRecDepth 20000 in
theorem ggL_number_X0_number : GoodIn wsL_number wsX0_number := goodIn_ca (goodIn_r _ [6, 7, 8, 9, 10, 11, 12, 5, 13, 14, 15, 16, 17, 18, 19, 20, 21, 22, 23, 24, 25, 26, 27, 28, 29, 30, 31, 32, 33, 34, 35, 36, 37, 38, 39, 40, 41, 42, 43, 44, 45, 46, 47] (by decide +kernel) (by decide +kernel)) (goodIn_sub (fun _ h => List.mem_cons_of_mem _ (List.mem_append_right _ h)) (by decide +kernel))
set_option maxRecDepth 20000 in
theorem gL_number_X0_number : GoodIn wsL_number (wsV RL 40 RX0 yX0_number wsX0_number) := goodIn_app (goodIn_of _ (by decide +kernel)) ggL_number_X0_number
theorem dL_number_0 : decode cL_number 0 = .ok (.aload_n 0, 1) := by decide +kernel
theorem dL_number_1 : decode cL_number 1 = .ok (.iload_n 1, 1) := by decide +kernel
theorem dL_number_2 : decode cL_number 2 = .ok (.iload_n 2, 1) := by decide +kernel
theorem dL_number_3 : decode cL_number 3 = .ok (.lload_n 3, 1) := by decide +kernel
theorem dL_number_4 : decode cL_number 4 = .ok (.invokevirtual 40, 3) := by decide +kernel
theorem dL_number_7 : decode cL_number 7 = .ok (.goto 7, 3) := by decide +kernel
theorem dL_number_10 : decode cL_number 10 = .ok (.astore 5, 2) := by decide +kernel
theorem dL_number_12 : decode cL_number 12 = .ok (.iconst 1, 1) := by decide +kernel
theorem dL_number_13 : decode cL_number 13 = .ok (.ireturn, 1) := by decide +kernel
theorem dL_number_14 : decode cL_number 14 = .ok (.iconst 0, 1) := by decide +kernel
theorem dL_number_15 : decode cL_number 15 = .ok (.ireturn, 1) := by decide +kernel
set_option maxRecDepth 20000 in
theorem ggL_refer_X0_refer : GoodIn wsL_refer wsX0_refer := goodIn_ca (goodIn_r _ [6, 7, 8, 9, 10, 11, 12, 13, 14, 5, 15, 16, 17, 18, 19, 20, 21, 22, 23, 24, 25, 26, 27, 28, 29, 30, 31, 32, 33, 34, 35, 36, 37, 38, 39, 40, 41, 42, 43, 44] (by decide +kernel) (by decide +kernel)) (goodIn_sub (fun _ h => List.mem_cons_of_mem _ (List.mem_append_right _ h)) (by decide +kernel))
set_option maxRecDepth 20000 in
theorem gL_refer_X0_refer : GoodIn wsL_refer (wsV RL 44 RX0 yX0_refer wsX0_refer) := goodIn_app (goodIn_of _ (by decide +kernel)) ggL_refer_X0_refer
theorem dL_refer_0 : decode cL_refer 0 = .ok (.aload_n 0, 1) := by decide +kernel
theorem dL_refer_1 : decode cL_refer 1 = .ok (.iload_n 1, 1) := by decide +kernel
theorem dL_refer_2 : decode cL_refer 2 = .ok (.iload_n 2, 1) := by decide +kernel
theorem dL_refer_3 : decode cL_refer 3 = .ok (.iload_n 3, 1) := by decide +kernel
theorem dL_refer_4 : decode cL_refer 4 = .ok (.invokevirtual 44, 3) := by decide +kernel
theorem dL_refer_7 : decode cL_refer 7 = .ok (.goto 7, 3) := by decide +kernel
theorem dL_refer_10 : decode cL_refer 10 = .ok (.astore 4, 2) := by decide +kernel
theorem dL_refer_12 : decode cL_refer 12 = .ok (.iconst 1, 1) := by decide +kernel
theorem dL_refer_13 : decode cL_refer 13 = .ok (.ireturn, 1) := by decide +kernel
theorem dL_refer_14 : decode cL_refer 14 = .ok (.iconst 0, 1) := by decide +kernel
theorem dL_refer_15 : decode cL_refer 15 = .ok (.ireturn, 1) := by decide +kernel
set_option maxRecDepth 20000 in
theorem ggL_bits_X0_bits : GoodIn wsL_bits wsX0_bits := goodIn_ca (goodIn_r _ [6, 7, 8, 9, 10, 11, 12, 13, 5, 14, 15, 16, 17, 18, 19, 20, 21, 22, 23, 24, 25, 26, 27, 28, 29, 30, 31, 32, 33, 34, 35, 36, 37, 38, 39, 40, 41, 42, 43, 44, 45, 46, 47, 48] (by decide +kernel) (by decide +kernel)) (goodIn_sub (fun _ h => List.mem_cons_of_mem _ (List.mem_append_right _ h)) (by decide +kernel))
set_option maxRecDepth 20000 in
theorem gL_bits_X0_bits : GoodIn wsL_bits (wsV RL 47 RX0 yX0_bits wsX0_bits) := goodIn_app (goodIn_of _ (by decide +kernel)) ggL_bits_X0_bits
theorem dL_bits_0 : decode cL_bits 0 = .ok (.aload_n 3, 1) := by decide +kernel
theorem dL_bits_1 : decode cL_bits 1 = .ok (.iconst 0, 1) := by decide +kernel
theorem dL_bits_2 : decode cL_bits 2 = .ok (.aload_n 0, 1) := by decide +kernel
theorem dL_bits_3 : decode cL_bits 3 = .ok (.iload_n 1, 1) := by decide +kernel
theorem dL_bits_4 : decode cL_bits 4 = .ok (.iload_n 2, 1) := by decide +kernel
theorem dL_bits_5 : decode cL_bits 5 = .ok (.invokevirtual 47, 3) := by decide +kernel
theorem dL_bits_8 : decode cL_bits 8 = .ok (.lastore, 1) := by decide +kernel
theorem dL_bits_9 : decode cL_bits 9 = .ok (.goto 7, 3) := by decide +kernel
theorem dL_bits_12 : decode cL_bits 12 = .ok (.astore 4, 2) := by decide +kernel
theorem dL_bits_14 : decode cL_bits 14 = .ok (.iconst 1, 1) := by decide +kernel
theorem dL_bits_15 : decode cL_bits 15 = .ok (.ireturn, 1) := by decide +kernel
theorem dL_bits_16 : decode cL_bits 16 = .ok (.iconst 0, 1) := by decide +kernel
theorem dL_bits_17 : decode cL_bits 17 = .ok (.ireturn, 1) := by decide +kernel
set_option maxRecDepth 20000 in
theorem ggL_follow_X0_follow : GoodIn wsL_follow wsX0_follow := goodIn_ca (goodIn_r _ [6, 7, 8, 9, 10, 11, 5, 12, 13, 14, 15, 16, 17, 18, 19, 20, 21, 22, 23, 24, 25, 26, 27, 28, 29, 30, 31, 32, 33, 34, 35, 36, 37, 38, 39, 40, 41, 42, 43, 44, 45, 46, 47] (by decide +kernel) (by decide +kernel)) (goodIn_sub (fun _ h => List.mem_cons_of_mem _ (List.mem_append_right _ h)) (by decide +kernel))
set_option maxRecDepth 20000 in
theorem gL_follow_X0_follow : GoodIn wsL_follow (wsV RL 51 RX0 yX0_follow wsX0_follow) := goodIn_app (goodIn_of _ (by decide +kernel)) ggL_follow_X0_follow
theorem dL_follow_0 : decode cL_follow 0 = .ok (.aload 4, 2) := by decide +kernel
theorem dL_follow_2 : decode cL_follow 2 = .ok (.iconst 0, 1) := by decide +kernel
theorem dL_follow_3 : decode cL_follow 3 = .ok (.aload_n 0, 1) := by decide +kernel
theorem dL_follow_4 : decode cL_follow 4 = .ok (.iload_n 1, 1) := by decide +kernel
theorem dL_follow_5 : decode cL_follow 5 = .ok (.iload_n 2, 1) := by decide +kernel
theorem dL_follow_6 : decode cL_follow 6 = .ok (.iload_n 3, 1) := by decide +kernel
theorem dL_follow_7 : decode cL_follow 7 = .ok (.invokevirtual 51, 3) := by decide +kernel
theorem dL_follow_10 : decode cL_follow 10 = .ok (.ifCond .eq 7, 3) := by decide +kernel
theorem dL_follow_13 : decode cL_follow 13 = .ok (.lconst 1, 1) := by decide +kernel
theorem dL_follow_14 : decode cL_follow 14 = .ok (.goto 4, 3) := by decide +kernel
theorem dL_follow_17 : decode cL_follow 17 = .ok (.lconst 0, 1) := by decide +kernel
theorem dL_follow_18 : decode cL_follow 18 = .ok (.lastore, 1) := by decide +kernel
theorem dL_follow_19 : decode cL_follow 19 = .ok (.goto 7, 3) := by decide +kernel
theorem dL_follow_22 : decode cL_follow 22 = .ok (.astore 5, 2) := by decide +kernel
theorem dL_follow_24 : decode cL_follow 24 = .ok (.iconst 1, 1) := by decide +kernel
theorem dL_follow_25 : decode cL_follow 25 = .ok (.ireturn, 1) := by decide +kernel
theorem dL_follow_26 : decode cL_follow 26 = .ok (.iconst 0, 1) := by decide +kernel
theorem dL_follow_27 : decode cL_follow 27 = .ok (.ireturn, 1) := by decide +kernel
set_option maxRecDepth 20000 in
theorem ggL_set_X0_set : GoodIn wsL_set wsX0_set := goodIn_ca (goodIn_r _ [6, 7, 8, 9, 10, 5, 11, 12, 13, 14, 15, 16, 17, 18, 19, 20, 21, 22, 23, 24, 25, 26, 27, 28, 29, 30, 31, 32, 33, 34, 35, 36, 37, 38, 39, 40, 41, 42, 43, 44, 45, 46, 47] (by decide +kernel) (by decide +kernel)) (goodIn_sub (fun _ h => List.mem_cons_of_mem _ (List.mem_append_right _ h)) (by decide +kernel))
set_option maxRecDepth 20000 in
theorem gL_set_X0_set : GoodIn wsL_set (wsV RL 55 RX0 yX0_set wsX0_set) := goodIn_app (goodIn_of _ (by decide +kernel)) ggL_set_X0_set
theorem dL_set_0 : decode cL_set 0 = .ok (.aload_n 0, 1) := by decide +kernel
theorem dL_set_1 : decode cL_set 1 = .ok (.iload_n 1, 1) := by decide +kernel
theorem dL_set_2 : decode cL_set 2 = .ok (.iload_n 2, 1) := by decide +kernel
theorem dL_set_3 : decode cL_set 3 = .ok (.iload_n 3, 1) := by decide +kernel
theorem dL_set_4 : decode cL_set 4 = .ok (.invokevirtual 55, 3) := by decide +kernel
theorem dL_set_7 : decode cL_set 7 = .ok (.goto 7, 3) := by decide +kernel
theorem dL_set_10 : decode cL_set 10 = .ok (.astore 4, 2) := by decide +kernel
theorem dL_set_12 : decode cL_set 12 = .ok (.iconst 1, 1) := by decide +kernel
theorem dL_set_13 : decode cL_set 13 = .ok (.ireturn, 1) := by decide +kernel
theorem dL_set_14 : decode cL_set 14 = .ok (.iconst 0, 1) := by decide +kernel
theorem dL_set_15 : decode cL_set 15 = .ok (.ireturn, 1) := by decide +kernel
set_option maxRecDepth 20000 in
theorem ggL_get_X0_get : GoodIn wsL_get wsX0_get := goodIn_ca (goodIn_r _ [6, 7, 8, 9, 10, 5, 11, 12, 13, 14, 15, 16, 17, 18, 19, 20, 21, 22, 23, 24, 25, 26, 27, 28, 29, 30, 31, 32, 33, 34, 35, 36, 37, 38, 39, 40, 41, 42, 43, 44, 45, 46, 47] (by decide +kernel) (by decide +kernel)) (goodIn_sub (fun _ h => List.mem_cons_of_mem _ (List.mem_append_right _ h)) (by decide +kernel))
set_option maxRecDepth 20000 in
theorem gL_get_X0_get : GoodIn wsL_get (wsV RL 58 RX0 yX0_get wsX0_get) := goodIn_app (goodIn_of _ (by decide +kernel)) ggL_get_X0_get
theorem dL_get_0 : decode cL_get 0 = .ok (.aload_n 3, 1) := by decide +kernel
theorem dL_get_1 : decode cL_get 1 = .ok (.iconst 0, 1) := by decide +kernel
theorem dL_get_2 : decode cL_get 2 = .ok (.aload_n 0, 1) := by decide +kernel
theorem dL_get_3 : decode cL_get 3 = .ok (.iload_n 1, 1) := by decide +kernel
theorem dL_get_4 : decode cL_get 4 = .ok (.iload_n 2, 1) := by decide +kernel
theorem dL_get_5 : decode cL_get 5 = .ok (.invokevirtual 58, 3) := by decide +kernel
theorem dL_get_8 : decode cL_get 8 = .ok (.i2l, 1) := by decide +kernel
theorem dL_get_9 : decode cL_get 9 = .ok (.lastore, 1) := by decide +kernel
theorem dL_get_10 : decode cL_get 10 = .ok (.goto 7, 3) := by decide +kernel
theorem dL_get_13 : decode cL_get 13 = .ok (.astore 4, 2) := by decide +kernel
theorem dL_get_15 : decode cL_get 15 = .ok (.iconst 1, 1) := by decide +kernel
theorem dL_get_16 : decode cL_get 16 = .ok (.ireturn, 1) := by decide +kernel
theorem dL_get_17 : decode cL_get 17 = .ok (.iconst 0, 1) := by decide +kernel
theorem dL_get_18 : decode cL_get 18 = .ok (.ireturn, 1) := by decide +kernel
set_option maxRecDepth 20000 in
theorem ggL_text_X0_text : GoodIn wsL_text wsX0_text := goodIn_ca (goodIn_ca (goodIn_r _ [7, 8, 9, 10, 11, 12, 13, 6, 14, 15, 16, 17, 18, 19, 20, 21, 22, 23, 24, 25, 26, 27, 28, 29, 30, 31, 32, 33, 34, 35, 36, 37, 38, 39, 40, 41, 42, 43, 44, 45, 46, 47, 48, 49, 50, 51, 52, 53, 54, 55, 56, 57, 58, 59, 60, 61, 62, 63, 64, 65, 66, 67, 68, 69, 70, 71, 72, 73, 74, 75, 76, 77, 78, 79, 80, 81, 82, 83, 84, 85, 86, 87, 88, 89, 90, 91, 92, 93, 94, 95, 96, 97, 98, 99, 100, 101, 102, 103, 104, 105, 106, 107, 108, 109, 110, 111, 112, 113, 114, 115, 116, 117, 118, 119, 120, 121, 122, 123, 124, 125, 126, 127, 128, 129, 130, 131, 132, 133, 134, 135, 136, 137, 138, 139, 140, 141, 142, 143, 144, 145] (by decide +kernel) (by decide +kernel)) (goodIn_sub (fun _ h => List.mem_cons_of_mem _ (List.mem_append_left _ (List.mem_append_right _ h))) (by decide +kernel))) (goodIn_sub (fun _ h => List.mem_cons_of_mem _ (List.mem_append_right _ h)) (by decide +kernel))
set_option maxRecDepth 20000 in
theorem gL_text_X0_text : GoodIn wsL_text (wsV RL 62 RX0 yX0_text wsX0_text) := goodIn_app (goodIn_of _ (by decide +kernel)) ggL_text_X0_text
theorem dL_text_0 : decode cL_text 0 = .ok (.aload_n 0, 1) := by decide +kernel
theorem dL_text_1 : decode cL_text 1 = .ok (.iload_n 1, 1) := by decide +kernel
theorem dL_text_2 : decode cL_text 2 = .ok (.lload_n 2, 1) := by decide +kernel
theorem dL_text_3 : decode cL_text 3 = .ok (.iload 4, 2) := by decide +kernel
theorem dL_text_5 : decode cL_text 5 = .ok (.invokevirtual 62, 3) := by decide +kernel
theorem dL_text_8 : decode cL_text 8 = .ok (.goto 11, 3) := by decide +kernel
theorem dL_text_11 : decode cL_text 11 = .ok (.astore 5, 2) := by decide +kernel
theorem dL_text_13 : decode cL_text 13 = .ok (.iconst 1, 1) := by decide +kernel
theorem dL_text_14 : decode cL_text 14 = .ok (.ireturn, 1) := by decide +kernel
theorem dL_text_15 : decode cL_text 15 = .ok (.astore 5, 2) := by decide +kernel
theorem dL_text_17 : decode cL_text 17 = .ok (.iconst 2, 1) := by decide +kernel
theorem dL_text_18 : decode cL_text 18 = .ok (.ireturn, 1) := by decide +kernel
theorem dL_text_19 : decode cL_text 19 = .ok (.iconst 0, 1) := by decide +kernel
theorem dL_text_20 : decode cL_text 20 = .ok (.ireturn, 1) := by decide +kernel
set_option maxRecDepth 20000 in
theorem ggL_join_X0_join : GoodIn wsL_join wsX0_join := goodIn_ca (goodIn_ca (goodIn_r _ [7, 8, 9, 10, 11, 12, 6, 13, 14, 15, 16, 17, 18, 19, 20, 21, 22, 23, 24, 25, 26, 27, 28, 29, 30, 31, 32, 33, 34, 35, 36, 37, 38, 39, 40, 41, 42, 43, 44, 45, 46, 47, 48, 49, 50, 51, 52, 53, 54, 55, 56, 57, 58, 59, 60, 61, 62, 63, 64, 65, 66, 67, 68, 69, 70, 71, 72, 73, 74, 75, 76, 77, 78, 79, 80, 81, 82, 83, 84, 85, 86, 87, 88, 89, 90, 91, 92, 93, 94, 95, 96, 97, 98, 99, 100, 101, 102, 103, 104, 105, 106, 107, 108, 109, 110, 111, 112, 113, 114, 115, 116, 117, 118, 119, 120, 121, 122, 123, 124, 125, 126, 127, 128, 129, 130, 131, 132, 133, 134, 135, 136, 137, 138, 139, 140, 141, 142, 143, 144, 145, 146, 147, 148, 149, 150, 151, 152, 153, 154, 155, 156, 157, 158, 159, 160, 161, 162, 163, 164, 165, 166, 167, 168, 169, 170, 171, 172, 173, 174] (by decide +kernel) (by decide +kernel)) (goodIn_sub (fun _ h => List.mem_cons_of_mem _ (List.mem_append_left _ (List.mem_append_right _ h))) (by decide +kernel))) (goodIn_sub (fun _ h => List.mem_cons_of_mem _ (List.mem_append_right _ h)) (by decide +kernel))
set_option maxRecDepth 20000 in
theorem gL_join_X0_join : GoodIn wsL_join (wsV RL 66 RX0 yX0_join wsX0_join) := goodIn_app (goodIn_of _ (by decide +kernel)) ggL_join_X0_join
theorem dL_join_0 : decode cL_join 0 = .ok (.aload_n 0, 1) := by decide +kernel
theorem dL_join_1 : decode cL_join 1 = .ok (.iload_n 1, 1) := by decide +kernel
theorem dL_join_2 : decode cL_join 2 = .ok (.iload_n 2, 1) := by decide +kernel
theorem dL_join_3 : decode cL_join 3 = .ok (.iload_n 3, 1) := by decide +kernel
theorem dL_join_4 : decode cL_join 4 = .ok (.invokevirtual 66, 3) := by decide +kernel
theorem dL_join_7 : decode cL_join 7 = .ok (.goto 11, 3) := by decide +kernel
theorem dL_join_10 : decode cL_join 10 = .ok (.astore 4, 2) := by decide +kernel
theorem dL_join_12 : decode cL_join 12 = .ok (.iconst 1, 1) := by decide +kernel
theorem dL_join_13 : decode cL_join 13 = .ok (.ireturn, 1) := by decide +kernel
theorem dL_join_14 : decode cL_join 14 = .ok (.astore 4, 2) := by decide +kernel
theorem dL_join_16 : decode cL_join 16 = .ok (.iconst 2, 1) := by decide +kernel
theorem dL_join_17 : decode cL_join 17 = .ok (.ireturn, 1) := by decide +kernel
theorem dL_join_18 : decode cL_join 18 = .ok (.iconst 0, 1) := by decide +kernel
theorem dL_join_19 : decode cL_join 19 = .ok (.ireturn, 1) := by decide +kernel
set_option maxRecDepth 20000 in
theorem ggL_part_X0_part : GoodIn wsL_part wsX0_part := goodIn_ca (goodIn_ca (goodIn_r _ [7, 8, 9, 10, 11, 12, 6, 13, 14, 15, 16, 17, 18, 19, 20, 21, 22, 23, 24, 25, 26, 27, 28, 29, 30, 31, 32, 33, 34, 35, 36, 37, 38, 39, 40, 41, 42, 43, 44, 45, 46, 47, 48, 49, 50, 51, 52, 53, 54, 55, 56, 57, 58, 59, 60, 61, 62, 63, 64, 65, 66, 67, 68, 69, 70, 71, 72, 73, 74, 75, 76, 77, 78, 79, 80, 81, 82, 83, 84, 85, 86, 87, 88, 89, 90, 91, 92, 93, 94, 95, 96, 97, 98, 99, 100, 101, 102, 103, 104, 105, 106, 107, 108, 109, 110, 111, 112, 113, 114, 115, 116, 117, 118, 119, 120, 121, 122, 123, 124, 125, 126, 127, 128, 129, 130, 131, 132, 133, 134, 135, 136, 137, 138, 139, 140, 141, 142, 143, 144, 145, 146, 147, 148, 149, 150, 151, 152, 153, 154, 155, 156, 157, 158, 159, 160, 161, 162, 163, 164, 165, 166, 167, 168, 169, 170, 171, 172, 173, 174, 175, 176, 177, 178, 179] (by decide +kernel) (by decide +kernel)) (goodIn_sub (fun _ h => List.mem_cons_of_mem _ (List.mem_append_left _ (List.mem_append_right _ h))) (by decide +kernel))) (goodIn_sub (fun _ h => List.mem_cons_of_mem _ (List.mem_append_right _ h)) (by decide +kernel))
set_option maxRecDepth 20000 in
theorem gL_part_X0_part : GoodIn wsL_part (wsV RL 69 RX0 yX0_part wsX0_part) := goodIn_app (goodIn_of _ (by decide +kernel)) ggL_part_X0_part
theorem dL_part_0 : decode cL_part 0 = .ok (.aload_n 0, 1) := by decide +kernel
theorem dL_part_1 : decode cL_part 1 = .ok (.iload_n 1, 1) := by decide +kernel
theorem dL_part_2 : decode cL_part 2 = .ok (.iload_n 2, 1) := by decide +kernel
theorem dL_part_3 : decode cL_part 3 = .ok (.iload_n 3, 1) := by decide +kernel
theorem dL_part_4 : decode cL_part 4 = .ok (.iload 4, 2) := by decide +kernel
theorem dL_part_6 : decode cL_part 6 = .ok (.invokevirtual 69, 3) := by decide +kernel
theorem dL_part_9 : decode cL_part 9 = .ok (.goto 11, 3) := by decide +kernel
theorem dL_part_12 : decode cL_part 12 = .ok (.astore 5, 2) := by decide +kernel
theorem dL_part_14 : decode cL_part 14 = .ok (.iconst 1, 1) := by decide +kernel
theorem dL_part_15 : decode cL_part 15 = .ok (.ireturn, 1) := by decide +kernel
theorem dL_part_16 : decode cL_part 16 = .ok (.astore 5, 2) := by decide +kernel
theorem dL_part_18 : decode cL_part 18 = .ok (.iconst 2, 1) := by decide +kernel
theorem dL_part_19 : decode cL_part 19 = .ok (.ireturn, 1) := by decide +kernel
theorem dL_part_20 : decode cL_part 20 = .ok (.iconst 0, 1) := by decide +kernel
theorem dL_part_21 : decode cL_part 21 = .ok (.ireturn, 1) := by decide +kernel
set_option maxRecDepth 20000 in
theorem ggL_length_X0_length : GoodIn wsL_length wsX0_length := goodIn_ca (goodIn_r _ [6, 7, 8, 9, 5, 10, 11, 12, 13, 14, 15, 16, 17, 18, 19, 20, 21, 22, 23, 24, 25, 26, 27, 28, 29, 30, 31, 32, 33, 34, 35, 36, 37, 38, 39, 40, 41, 42, 43] (by decide +kernel) (by decide +kernel)) (goodIn_sub (fun _ h => List.mem_cons_of_mem _ (List.mem_append_right _ h)) (by decide +kernel))
set_option maxRecDepth 20000 in
theorem gL_length_X0_length : GoodIn wsL_length (wsV RL 72 RX0 yX0_length wsX0_length) := goodIn_app (goodIn_of _ (by decide +kernel)) ggL_length_X0_length
theorem dL_length_0 : decode cL_length 0 = .ok (.aload_n 2, 1) := by decide +kernel
theorem dL_length_1 : decode cL_length 1 = .ok (.iconst 0, 1) := by decide +kernel
theorem dL_length_2 : decode cL_length 2 = .ok (.aload_n 0, 1) := by decide +kernel
theorem dL_length_3 : decode cL_length 3 = .ok (.iload_n 1, 1) := by decide +kernel
theorem dL_length_4 : decode cL_length 4 = .ok (.invokevirtual 72, 3) := by decide +kernel
theorem dL_length_7 : decode cL_length 7 = .ok (.i2l, 1) := by decide +kernel
theorem dL_length_8 : decode cL_length 8 = .ok (.lastore, 1) := by decide +kernel
theorem dL_length_9 : decode cL_length 9 = .ok (.goto 6, 3) := by decide +kernel
theorem dL_length_12 : decode cL_length 12 = .ok (.astore_n 3, 1) := by decide +kernel
theorem dL_length_13 : decode cL_length 13 = .ok (.iconst 1, 1) := by decide +kernel
theorem dL_length_14 : decode cL_length 14 = .ok (.ireturn, 1) := by decide +kernel
theorem dL_length_15 : decode cL_length 15 = .ok (.iconst 0, 1) := by decide +kernel
theorem dL_length_16 : decode cL_length 16 = .ok (.ireturn, 1) := by decide +kernel
set_option maxRecDepth 20000 in
theorem ggL_unit_X0_unit : GoodIn wsL_unit wsX0_unit := goodIn_ca (goodIn_ca (goodIn_r _ [7, 8, 9, 10, 11, 12, 13, 6, 14, 15, 16, 17, 18, 19, 20, 21, 22, 23, 24, 25, 26, 27, 28, 29, 30, 31, 32, 33, 34, 35, 36, 37, 38, 39, 40, 41, 42, 43, 44, 45, 46, 47, 48, 49, 50, 51, 52, 53, 54, 55, 56, 57, 58, 59, 60, 61, 62, 63, 64, 65, 66, 67, 68, 69, 70, 71, 72, 73, 74, 75, 76, 77, 78, 79, 80, 81, 82, 83, 84, 85, 86, 87, 88, 89, 90, 91, 92, 93, 94, 95, 96, 97, 98, 99, 100, 101, 102, 103, 104, 105, 106, 107, 108, 109, 110, 111, 112, 113, 114, 115, 116, 117, 118, 119, 120, 121, 122, 123, 124, 125, 126, 127, 128, 129, 130, 131, 132, 133, 134, 135, 136, 137, 138, 139, 140, 141, 142, 143, 144, 145, 146, 147, 148, 149, 150, 151, 152, 153, 154, 155, 156, 157, 158, 159, 160, 161, 162, 163, 164, 165, 166, 167, 168, 169, 170, 171, 172, 173, 174, 175, 176, 177, 178, 179] (by decide +kernel) (by decide +kernel)) (goodIn_sub (fun _ h => List.mem_cons_of_mem _ (List.mem_append_left _ (List.mem_append_right _ h))) (by decide +kernel))) (goodIn_sub (fun _ h => List.mem_cons_of_mem _ (List.mem_append_right _ h)) (by decide +kernel))
set_option maxRecDepth 20000 in
theorem gL_unit_X0_unit : GoodIn wsL_unit (wsV RL 75 RX0 yX0_unit wsX0_unit) := goodIn_app (goodIn_of _ (by decide +kernel)) ggL_unit_X0_unit
theorem dL_unit_0 : decode cL_unit 0 = .ok (.aload_n 3, 1) := by decide +kernel
theorem dL_unit_1 : decode cL_unit 1 = .ok (.iconst 0, 1) := by decide +kernel
theorem dL_unit_2 : decode cL_unit 2 = .ok (.aload_n 0, 1) := by decide +kernel
theorem dL_unit_3 : decode cL_unit 3 = .ok (.iload_n 1, 1) := by decide +kernel
theorem dL_unit_4 : decode cL_unit 4 = .ok (.iload_n 2, 1) := by decide +kernel
theorem dL_unit_5 : decode cL_unit 5 = .ok (.invokevirtual 75, 3) := by decide +kernel
theorem dL_unit_8 : decode cL_unit 8 = .ok (.i2l, 1) := by decide +kernel
theorem dL_unit_9 : decode cL_unit 9 = .ok (.lastore, 1) := by decide +kernel
theorem dL_unit_10 : decode cL_unit 10 = .ok (.goto 11, 3) := by decide +kernel
theorem dL_unit_13 : decode cL_unit 13 = .ok (.astore 4, 2) := by decide +kernel
theorem dL_unit_15 : decode cL_unit 15 = .ok (.iconst 1, 1) := by decide +kernel
theorem dL_unit_16 : decode cL_unit 16 = .ok (.ireturn, 1) := by decide +kernel
theorem dL_unit_17 : decode cL_unit 17 = .ok (.astore 4, 2) := by decide +kernel
theorem dL_unit_19 : decode cL_unit 19 = .ok (.iconst 2, 1) := by decide +kernel
theorem dL_unit_20 : decode cL_unit 20 = .ok (.ireturn, 1) := by decide +kernel
theorem dL_unit_21 : decode cL_unit 21 = .ok (.iconst 0, 1) := by decide +kernel
theorem dL_unit_22 : decode cL_unit 22 = .ok (.ireturn, 1) := by decide +kernel
set_option maxRecDepth 20000 in
theorem ggL_compare_X0_compare : GoodIn wsL_compare wsX0_compare := goodIn_ca (goodIn_ca (goodIn_r _ [7, 8, 9, 10, 11, 12, 13, 14, 15, 6, 16, 17, 18, 19, 20, 21, 22, 23, 24, 25, 26, 27, 28, 29, 30, 31, 32, 33, 34, 35, 36, 37, 38, 39, 40, 41, 42, 43, 44, 45, 46, 47, 48, 49, 50, 51, 52, 53, 54, 55, 56, 57, 58, 59, 60, 61, 62, 63, 64, 65, 66, 67, 68, 69, 70, 71, 72, 73, 74, 75, 76, 77, 78, 79, 80, 81, 82, 83, 84, 85, 86, 87, 88, 89, 90, 91, 92, 93, 94, 95, 96, 97, 98, 99, 100, 101, 102, 103, 104, 105, 106, 107, 108, 109, 110, 111, 112, 113, 114, 115, 116, 117, 118, 119, 120, 121, 122, 123, 124, 125, 126, 127, 128, 129, 130, 131, 132, 133, 134, 135, 136, 137, 138, 139, 140, 141, 142, 143, 144, 145, 146, 147, 148, 149, 150, 151, 152, 153, 154, 155, 156, 157, 158, 159, 160, 161, 162, 163, 164, 165, 166, 167, 168, 169, 170, 171, 172, 173, 174, 175, 176, 177, 178, 179, 180, 181, 182, 183] (by decide +kernel) (by decide +kernel)) (goodIn_sub (fun _ h => List.mem_cons_of_mem _ (List.mem_append_left _ (List.mem_append_right _ h))) (by decide +kernel))) (goodIn_sub (fun _ h => List.mem_cons_of_mem _ (List.mem_append_right _ h)) (by decide +kernel))
set_option maxRecDepth 20000 in
theorem gL_compare_X0_compare : GoodIn wsL_compare (wsV RL 78 RX0 yX0_compare wsX0_compare) := goodIn_app (goodIn_of _ (by decide +kernel)) ggL_compare_X0_compare
theorem dL_compare_0 : decode cL_compare 0 = .ok (.aload_n 3, 1) := by decide +kernel
theorem dL_compare_1 : decode cL_compare 1 = .ok (.iconst 0, 1) := by decide +kernel
theorem dL_compare_2 : decode cL_compare 2 = .ok (.aload_n 0, 1) := by decide +kernel
theorem dL_compare_3 : decode cL_compare 3 = .ok (.iload_n 1, 1) := by decide +kernel
theorem dL_compare_4 : decode cL_compare 4 = .ok (.iload_n 2, 1) := by decide +kernel
theorem dL_compare_5 : decode cL_compare 5 = .ok (.invokevirtual 78, 3) := by decide +kernel
theorem dL_compare_8 : decode cL_compare 8 = .ok (.i2l, 1) := by decide +kernel
theorem dL_compare_9 : decode cL_compare 9 = .ok (.lastore, 1) := by decide +kernel
theorem dL_compare_10 : decode cL_compare 10 = .ok (.goto 11, 3) := by decide +kernel
theorem dL_compare_13 : decode cL_compare 13 = .ok (.astore 4, 2) := by decide +kernel
theorem dL_compare_15 : decode cL_compare 15 = .ok (.iconst 1, 1) := by decide +kernel
theorem dL_compare_16 : decode cL_compare 16 = .ok (.ireturn, 1) := by decide +kernel
theorem dL_compare_17 : decode cL_compare 17 = .ok (.astore 4, 2) := by decide +kernel
theorem dL_compare_19 : decode cL_compare 19 = .ok (.iconst 2, 1) := by decide +kernel
theorem dL_compare_20 : decode cL_compare 20 = .ok (.ireturn, 1) := by decide +kernel
theorem dL_compare_21 : decode cL_compare 21 = .ok (.iconst 0, 1) := by decide +kernel
theorem dL_compare_22 : decode cL_compare 22 = .ok (.ireturn, 1) := by decide +kernel
set_option maxRecDepth 20000 in
theorem ggL_name_X0_name : GoodIn wsL_name wsX0_name := goodIn_ca (goodIn_ca (goodIn_r _ [7, 8, 9, 10, 6, 11, 12, 13, 14, 15, 16, 17, 18, 19, 20, 21, 22, 23, 24, 25, 26, 27, 28, 29, 30, 31, 32, 33, 34, 35, 36, 37, 38, 39, 40, 41, 42, 43, 44, 45, 46, 47, 48, 49, 50, 51, 52, 53, 54, 55, 56, 57, 58, 59, 60, 61, 62, 63, 64, 65, 66, 67, 68, 69, 70, 71, 72, 73, 74, 75, 76, 77, 78, 79, 80, 81, 82, 83, 84, 85, 86, 87, 88, 89, 90, 91, 92, 93, 94, 95, 96, 97, 98, 99, 100, 101, 102, 103, 104, 105, 106, 107, 108, 109, 110, 111, 112, 113, 114, 115, 116, 117, 118, 119, 120, 121, 122, 123, 124, 125, 126, 127, 128, 129, 130, 131, 132, 133, 134, 135, 136, 137, 138, 139, 140, 141, 142, 143, 144, 145, 146, 147, 148, 149, 150, 151, 152, 153, 154, 155, 156, 157, 158, 159, 160, 161, 162, 163, 164, 165, 166, 167, 168, 169, 170, 171, 172, 173, 174, 175, 176, 177, 178, 179, 180, 181, 182, 183, 184, 185, 186, 187, 188, 189, 190, 191] (by decide +kernel) (by decide +kernel)) (goodIn_sub (fun _ h => List.mem_cons_of_mem _ (List.mem_append_left _ (List.mem_append_right _ h))) (by decide +kernel))) (goodIn_sub (fun _ h => List.mem_cons_of_mem _ (List.mem_append_right _ h)) (by decide +kernel))
set_option maxRecDepth 20000 in
theorem gL_name_X0_name : GoodIn wsL_name (wsV RL 81 RX0 yX0_name wsX0_name) := goodIn_app (goodIn_of _ (by decide +kernel)) ggL_name_X0_name
theorem dL_name_0 : decode cL_name 0 = .ok (.aload_n 0, 1) := by decide +kernel
theorem dL_name_1 : decode cL_name 1 = .ok (.iload_n 1, 1) := by decide +kernel
theorem dL_name_2 : decode cL_name 2 = .ok (.iload_n 2, 1) := by decide +kernel
theorem dL_name_3 : decode cL_name 3 = .ok (.invokevirtual 81, 3) := by decide +kernel
theorem dL_name_6 : decode cL_name 6 = .ok (.goto 9, 3) := by decide +kernel
theorem dL_name_9 : decode cL_name 9 = .ok (.astore_n 3, 1) := by decide +kernel
theorem dL_name_10 : decode cL_name 10 = .ok (.iconst 1, 1) := by decide +kernel
theorem dL_name_11 : decode cL_name 11 = .ok (.ireturn, 1) := by decide +kernel
theorem dL_name_12 : decode cL_name 12 = .ok (.astore_n 3, 1) := by decide +kernel
theorem dL_name_13 : decode cL_name 13 = .ok (.iconst 2, 1) := by decide +kernel
theorem dL_name_14 : decode cL_name 14 = .ok (.ireturn, 1) := by decide +kernel
theorem dL_name_15 : decode cL_name 15 = .ok (.iconst 0, 1) := by decide +kernel
theorem dL_name_16 : decode cL_name 16 = .ok (.ireturn, 1) := by decide +kernel
set_option maxRecDepth 20000 in
theorem ggL_stress_X0_stress : GoodIn wsL_stress wsX0_stress := goodIn_ca (goodIn_r _ [6, 7, 8, 9, 10, 11, 12, 13, 14, 15, 16, 17, 18, 19, 20] (by decide +kernel) (by decide +kernel)) (goodIn_sub (fun _ h => List.mem_cons_of_mem _ (List.mem_append_right _ h)) (by decide +kernel))
set_option maxRecDepth 20000 in
theorem gL_stress_X0_stress : GoodIn wsL_stress (wsV RL 84 RX0 yX0_stress wsX0_stress) := goodIn_app (goodIn_of _ (by decide +kernel)) ggL_stress_X0_stress
theorem dL_stress_0 : decode cL_stress 0 = .ok (.aload_n 0, 1) := by decide +kernel
theorem dL_stress_1 : decode cL_stress 1 = .ok (.iload_n 1, 1) := by decide +kernel
theorem dL_stress_2 : decode cL_stress 2 = .ok (.invokevirtual 84, 3) := by decide +kernel
theorem dL_stress_5 : decode cL_stress 5 = .ok (.goto 6, 3) := by decide +kernel
theorem dL_stress_8 : decode cL_stress 8 = .ok (.astore_n 2, 1) := by decide +kernel
theorem dL_stress_9 : decode cL_stress 9 = .ok (.iconst 1, 1) := by decide +kernel
theorem dL_stress_10 : decode cL_stress 10 = .ok (.ireturn, 1) := by decide +kernel
theorem dL_stress_11 : decode cL_stress 11 = .ok (.iconst 0, 1) := by decide +kernel
theorem dL_stress_12 : decode cL_stress 12 = .ok (.ireturn, 1) := by decide +kernel
