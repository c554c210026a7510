/-! the law's calls: words -/
set_option maxRecDepth 20000 in
theorem ggL_law_L_cell : GoodIn wsL_law wsL_cell := goodIn_r _ [11] (by decide +kernel) (by decide +kernel)
set_option maxRecDepth 20000 in
theorem gL_law_L_cell : GoodIn wsL_law (va_wsS RL 87 yL_cell wsL_cell) := goodIn_app (goodIn_of _ (by decide +kernel)) ggL_law_L_cell
set_option maxRecDepth 20000 in
theorem ggL_law_X0_init : GoodIn wsL_law wsX0_init := goodIn_r _ [14, 15, 16, 17, 18, 19, 20, 21, 22, 23, 24, 25, 26, 27, 28, 29, 30, 31, 32, 33, 34, 35, 36, 37, 38, 39, 40, 575, 576, 577, 578, 579, 580, 581, 582, 583, 584] (by decide +kernel) (by decide +kernel)
set_option maxRecDepth 20000 in
theorem gL_law_X0_init : GoodIn wsL_law (wsX0_init) := ggL_law_X0_init
set_option maxRecDepth 20000 in
theorem ggL_law_X1_init : GoodIn wsL_law wsX1_init := goodIn_r _ [43, 44, 16, 17, 27, 45, 46, 47, 48, 49, 50, 51, 52, 6, 53, 54, 55, 56, 57, 58, 59, 60, 61, 62, 63, 64, 65, 66, 67, 585, 586, 587, 588, 589, 590, 591, 592, 593, 594, 595, 596, 597, 598, 599, 600, 601, 602, 603, 604, 605] (by decide +kernel) (by decide +kernel)
set_option maxRecDepth 20000 in
theorem gL_law_X1_init : GoodIn wsL_law (wsX1_init) := ggL_law_X1_init
set_option maxRecDepth 20000 in
theorem ggL_law_L_take : GoodIn wsL_law wsL_take := goodIn_ca (goodIn_ca (goodIn_r _ [70, 71, 72, 73, 74, 75, 2, 76, 77, 78, 30, 79, 80, 81, 82, 83, 84, 85, 86, 87, 88, 89, 90, 28, 29, 26, 36, 91, 92, 93, 94, 35, 95, 96, 97, 98, 34, 23, 24, 21, 25, 99, 100, 101, 102, 103, 104, 105, 106, 107, 108, 109, 110, 111, 112, 113, 114, 115, 116, 117, 118, 119, 120, 121, 122, 123, 124, 125, 126, 127, 128, 129, 130, 131, 132, 133, 134, 32, 31, 135, 136, 137, 138, 139, 140, 141, 142, 143, 144, 145, 146, 19, 20, 22, 147, 148, 39, 149, 150, 151, 152, 153, 154, 155, 27, 156, 157, 158, 159, 160, 161, 162, 163, 164, 165, 166, 167, 168, 169, 575, 576, 577, 578, 579, 580, 581, 582, 583, 584, 606, 607, 608, 609] (by decide +kernel) (by decide +kernel)) (goodIn_sub (fun _ h => List.mem_append_left _ (List.mem_append_right _ h)) (by decide +kernel))) (goodIn_sub (fun _ h => List.mem_append_right _ h) (by decide +kernel))
set_option maxRecDepth 20000 in
theorem gL_law_L_take : GoodIn wsL_law (va_wsS RL 98 yL_take wsL_take) := goodIn_app (goodIn_of _ (by decide +kernel)) ggL_law_L_take
set_option maxRecDepth 20000 in
theorem ggL_law_X1_take : GoodIn wsL_law wsX1_take := goodIn_r _ [173, 48, 46, 49, 50, 174, 45, 175, 176, 5, 177, 178, 179, 180, 181, 182, 183, 184, 185, 186, 187, 188, 47, 57, 58, 67, 189, 190, 191, 192, 193, 65, 194, 195, 196, 197, 64, 52, 54, 59, 60, 62, 198, 199, 200, 201, 202, 203, 204, 205, 585, 586, 587, 588, 589, 590, 591, 592, 593, 594, 595, 596, 597, 598, 599, 600, 601, 602, 603, 604, 605] (by decide +kernel) (by decide +kernel)
set_option maxRecDepth 20000 in
theorem gL_law_X1_take : GoodIn wsL_law (wsV RL 101 RX1 yX1_take wsX1_take) := goodIn_app (goodIn_of _ (by decide +kernel)) ggL_law_X1_take
set_option maxRecDepth 20000 in
theorem ggL_law_X1_thrown : GoodIn wsL_law wsX1_thrown := goodIn_r _ [209, 174, 585, 586, 587, 588, 589, 590, 591, 592, 593, 594, 595, 596, 597, 598, 599, 600, 601, 602, 603, 604, 605] (by decide +kernel) (by decide +kernel)
set_option maxRecDepth 20000 in
theorem gL_law_X1_thrown : GoodIn wsL_law (wsV RL 102 RX1 yX1_thrown wsX1_thrown) := goodIn_app (goodIn_of _ (by decide +kernel)) ggL_law_X1_thrown
set_option maxRecDepth 20000 in
theorem ggL_law_L_copy : GoodIn wsL_law wsL_copy := goodIn_ca (goodIn_r _ [212, 71, 213, 214, 215, 2, 216, 30, 79, 80, 81, 77, 78, 575, 576, 577, 578, 579, 580, 581, 582, 583, 584] (by decide +kernel) (by decide +kernel)) (goodIn_sub (fun _ h => List.mem_append_left _ (List.mem_append_right _ h)) (by decide +kernel))
set_option maxRecDepth 20000 in
theorem gL_law_L_copy : GoodIn wsL_law (va_wsS RL 106 yL_copy wsL_copy) := goodIn_app (goodIn_of _ (by decide +kernel)) ggL_law_L_copy
set_option maxRecDepth 20000 in
theorem ggL_law_X1_copy : GoodIn wsL_law wsX1_copy := goodIn_r _ [220, 45, 175, 176, 5, 177, 178, 179, 180, 181, 182, 183, 184, 174, 585, 586, 587, 588, 589, 590, 591, 592, 593, 594, 595, 596, 597, 598, 599, 600, 601, 602, 603, 604, 605] (by decide +kernel) (by decide +kernel)
set_option maxRecDepth 20000 in
theorem gL_law_X1_copy : GoodIn wsL_law (wsV RL 109 RX1 yX1_copy wsX1_copy) := goodIn_app (goodIn_of _ (by decide +kernel)) ggL_law_X1_copy
set_option maxRecDepth 20000 in
theorem ggL_law_L_drop : GoodIn wsL_law wsL_drop := goodIn_ca (goodIn_r _ [223, 71, 224, 225, 226, 2, 227, 30, 79, 80, 81, 77, 78, 575, 576, 577, 578, 579, 580, 581, 582, 583, 584] (by decide +kernel) (by decide +kernel)) (goodIn_sub (fun _ h => List.mem_append_left _ (List.mem_append_right _ h)) (by decide +kernel))
set_option maxRecDepth 20000 in
theorem gL_law_L_drop : GoodIn wsL_law (va_wsS RL 110 yL_drop wsL_drop) := goodIn_app (goodIn_of _ (by decide +kernel)) ggL_law_L_drop
set_option maxRecDepth 20000 in
theorem ggL_law_X1_drop : GoodIn wsL_law wsX1_drop := goodIn_r _ [231, 45, 175, 176, 5, 177, 178, 179, 180, 181, 182, 183, 184, 174, 585, 586, 587, 588, 589, 590, 591, 592, 593, 594, 595, 596, 597, 598, 599, 600, 601, 602, 603, 604, 605] (by decide +kernel) (by decide +kernel)
set_option maxRecDepth 20000 in
theorem gL_law_X1_drop : GoodIn wsL_law (wsV RL 113 RX1 yX1_drop wsX1_drop) := goodIn_app (goodIn_of _ (by decide +kernel)) ggL_law_X1_drop
set_option maxRecDepth 20000 in
theorem ggL_law_L_kind : GoodIn wsL_law wsL_kind := goodIn_ca (goodIn_r _ [234, 71, 235, 236, 237, 2, 238, 30, 79, 80, 81, 77, 78, 239, 240, 241, 242, 28, 575, 576, 577, 578, 579, 580, 581, 582, 583, 584] (by decide +kernel) (by decide +kernel)) (goodIn_sub (fun _ h => List.mem_append_left _ (List.mem_append_right _ h)) (by decide +kernel))
set_option maxRecDepth 20000 in
theorem gL_law_L_kind : GoodIn wsL_law (va_wsS RL 114 yL_kind wsL_kind) := goodIn_app (goodIn_of _ (by decide +kernel)) ggL_law_L_kind
set_option maxRecDepth 20000 in
theorem ggL_law_X1_kind : GoodIn wsL_law wsX1_kind := goodIn_r _ [246, 47, 45, 175, 176, 5, 177, 178, 179, 180, 181, 182, 183, 184, 174, 585, 586, 587, 588, 589, 590, 591, 592, 593, 594, 595, 596, 597, 598, 599, 600, 601, 602, 603, 604, 605] (by decide +kernel) (by decide +kernel)
set_option maxRecDepth 20000 in
theorem gL_law_X1_kind : GoodIn wsL_law (wsV RL 117 RX1 yX1_kind wsX1_kind) := goodIn_app (goodIn_of _ (by decide +kernel)) ggL_law_X1_kind
set_option maxRecDepth 20000 in
theorem ggL_law_L_same : GoodIn wsL_law wsL_same := goodIn_ca (goodIn_r _ [249, 71, 250, 251, 252, 2, 253, 30, 79, 80, 81, 77, 78, 575, 576, 577, 578, 579, 580, 581, 582, 583, 584] (by decide +kernel) (by decide +kernel)) (goodIn_sub (fun _ h => List.mem_append_left _ (List.mem_append_right _ h)) (by decide +kernel))
set_option maxRecDepth 20000 in
theorem gL_law_L_same : GoodIn wsL_law (va_wsS RL 118 yL_same wsL_same) := goodIn_app (goodIn_of _ (by decide +kernel)) ggL_law_L_same
set_option maxRecDepth 20000 in
theorem ggL_law_X1_same : GoodIn wsL_law wsX1_same := goodIn_r _ [257, 45, 175, 176, 5, 177, 178, 179, 180, 181, 182, 183, 184, 174, 585, 586, 587, 588, 589, 590, 591, 592, 593, 594, 595, 596, 597, 598, 599, 600, 601, 602, 603, 604, 605] (by decide +kernel) (by decide +kernel)
set_option maxRecDepth 20000 in
theorem gL_law_X1_same : GoodIn wsL_law (wsV RL 121 RX1 yX1_same wsX1_same) := goodIn_app (goodIn_of _ (by decide +kernel)) ggL_law_X1_same
set_option maxRecDepth 20000 in
theorem ggL_law_L_tie : GoodIn wsL_law wsL_tie := goodIn_ca (goodIn_r _ [260, 71, 261, 262, 263, 2, 264, 28, 30, 265, 266, 267, 268, 77, 78, 269, 270, 271, 272, 79, 80, 81, 239, 240, 241, 242, 111, 112, 113, 114, 575, 576, 577, 578, 579, 580, 581, 582, 583, 584] (by decide +kernel) (by decide +kernel)) (goodIn_sub (fun _ h => List.mem_append_left _ (List.mem_append_right _ h)) (by decide +kernel))
set_option maxRecDepth 20000 in
theorem gL_law_L_tie : GoodIn wsL_law (va_wsS RL 122 yL_tie wsL_tie) := goodIn_app (goodIn_of _ (by decide +kernel)) ggL_law_L_tie
set_option maxRecDepth 20000 in
theorem ggL_law_X1_tie : GoodIn wsL_law wsX1_tie := goodIn_r _ [276, 52, 45, 277, 278, 279, 5, 280, 48, 281, 282, 283, 284, 47, 175, 176, 177, 178, 179, 180, 181, 182, 183, 184, 174, 585, 586, 587, 588, 589, 590, 591, 592, 593, 594, 595, 596, 597, 598, 599, 600, 601, 602, 603, 604, 605] (by decide +kernel) (by decide +kernel)
set_option maxRecDepth 20000 in
theorem gL_law_X1_tie : GoodIn wsL_law (wsV RL 125 RX1 yX1_tie wsX1_tie) := goodIn_app (goodIn_of _ (by decide +kernel)) ggL_law_X1_tie
set_option maxRecDepth 20000 in
theorem ggL_law_L_lead : GoodIn wsL_law wsL_lead := goodIn_ca (goodIn_r _ [287, 71, 288, 289, 290, 2, 291, 30, 28, 265, 266, 267, 268, 77, 78, 269, 270, 271, 272, 79, 80, 81, 239, 240, 241, 242, 111, 112, 113, 114, 575, 576, 577, 578, 579, 580, 581, 582, 583, 584] (by decide +kernel) (by decide +kernel)) (goodIn_sub (fun _ h => List.mem_append_left _ (List.mem_append_right _ h)) (by decide +kernel))
set_option maxRecDepth 20000 in
theorem gL_law_L_lead : GoodIn wsL_law (va_wsS RL 126 yL_lead wsL_lead) := goodIn_app (goodIn_of _ (by decide +kernel)) ggL_law_L_lead
set_option maxRecDepth 20000 in
theorem ggL_law_X1_lead : GoodIn wsL_law wsX1_lead := goodIn_r _ [295, 45, 52, 277, 278, 279, 5, 280, 48, 281, 282, 283, 284, 47, 175, 176, 177, 178, 179, 180, 181, 182, 183, 184, 174, 585, 586, 587, 588, 589, 590, 591, 592, 593, 594, 595, 596, 597, 598, 599, 600, 601, 602, 603, 604, 605] (by decide +kernel) (by decide +kernel)
set_option maxRecDepth 20000 in
theorem gL_law_X1_lead : GoodIn wsL_law (wsV RL 128 RX1 yX1_lead wsX1_lead) := goodIn_app (goodIn_of _ (by decide +kernel)) ggL_law_X1_lead
set_option maxRecDepth 20000 in
theorem ggL_law_L_number : GoodIn wsL_law wsL_number := goodIn_ca (goodIn_r _ [298, 71, 299, 300, 301, 2, 302, 77, 78, 28, 303, 304, 305, 306, 269, 270, 271, 272, 30, 79, 80, 81, 239, 240, 241, 242, 115, 116, 117, 118, 111, 112, 113, 114, 119, 120, 121, 122, 575, 576, 577, 578, 579, 580, 581, 582, 583, 584] (by decide +kernel) (by decide +kernel)) (goodIn_sub (fun _ h => List.mem_append_left _ (List.mem_append_right _ h)) (by decide +kernel))
set_option maxRecDepth 20000 in
theorem gL_law_L_number : GoodIn wsL_law (va_wsS RL 131 yL_number wsL_number) := goodIn_app (goodIn_of _ (by decide +kernel)) ggL_law_L_number
set_option maxRecDepth 20000 in
theorem ggL_law_X1_number : GoodIn wsL_law wsX1_number := goodIn_r _ [310, 311, 53, 45, 54, 312, 313, 314, 5, 315, 49, 281, 282, 283, 284, 47, 175, 176, 177, 178, 179, 180, 181, 182, 183, 184, 174, 585, 586, 587, 588, 589, 590, 591, 592, 593, 594, 595, 596, 597, 598, 599, 600, 601, 602, 603, 604, 605] (by decide +kernel) (by decide +kernel)
set_option maxRecDepth 20000 in
theorem gL_law_X1_number : GoodIn wsL_law (wsV RL 134 RX1 yX1_number wsX1_number) := goodIn_app (goodIn_of _ (by decide +kernel)) ggL_law_X1_number
set_option maxRecDepth 20000 in
theorem ggL_law_L_refer : GoodIn wsL_law wsL_refer := goodIn_ca (goodIn_r _ [318, 71, 319, 320, 321, 2, 322, 77, 78, 30, 28, 323, 303, 304, 305, 306, 269, 270, 271, 272, 79, 80, 81, 239, 240, 241, 242, 115, 116, 117, 118, 111, 112, 113, 114, 575, 576, 577, 578, 579, 580, 581, 582, 583, 584] (by decide +kernel) (by decide +kernel)) (goodIn_sub (fun _ h => List.mem_append_left _ (List.mem_append_right _ h)) (by decide +kernel))
set_option maxRecDepth 20000 in
theorem gL_law_L_refer : GoodIn wsL_law (va_wsS RL 135 yL_refer wsL_refer) := goodIn_app (goodIn_of _ (by decide +kernel)) ggL_law_L_refer
set_option maxRecDepth 20000 in
theorem ggL_law_X1_refer : GoodIn wsL_law wsX1_refer := goodIn_r _ [327, 45, 54, 312, 313, 314, 5, 315, 49, 281, 282, 283, 284, 47, 175, 176, 177, 178, 179, 180, 181, 182, 183, 184, 174, 585, 586, 587, 588, 589, 590, 591, 592, 593, 594, 595, 596, 597, 598, 599, 600, 601, 602, 603, 604, 605] (by decide +kernel) (by decide +kernel)
set_option maxRecDepth 20000 in
theorem gL_law_X1_refer : GoodIn wsL_law (wsV RL 137 RX1 yX1_refer wsX1_refer) := goodIn_app (goodIn_of _ (by decide +kernel)) ggL_law_X1_refer
set_option maxRecDepth 20000 in
theorem ggL_law_L_bits : GoodIn wsL_law wsL_bits := goodIn_ca (goodIn_r _ [330, 71, 331, 332, 333, 2, 334, 77, 78, 28, 335, 303, 304, 305, 306, 269, 270, 271, 272, 30, 79, 80, 81, 239, 240, 241, 242, 115, 116, 117, 118, 111, 112, 113, 114, 119, 120, 121, 122, 575, 576, 577, 578, 579, 580, 581, 582, 583, 584] (by decide +kernel) (by decide +kernel)) (goodIn_sub (fun _ h => List.mem_append_left _ (List.mem_append_right _ h)) (by decide +kernel))
set_option maxRecDepth 20000 in
theorem gL_law_L_bits : GoodIn wsL_law (va_wsS RL 138 yL_bits wsL_bits) := goodIn_app (goodIn_of _ (by decide +kernel)) ggL_law_L_bits
set_option maxRecDepth 20000 in
theorem ggL_law_X1_bits : GoodIn wsL_law wsX1_bits := goodIn_r _ [339, 54, 45, 53, 312, 313, 314, 5, 315, 49, 281, 282, 283, 284, 47, 175, 176, 177, 178, 179, 180, 181, 182, 183, 184, 174, 585, 586, 587, 588, 589, 590, 591, 592, 593, 594, 595, 596, 597, 598, 599, 600, 601, 602, 603, 604, 605] (by decide +kernel) (by decide +kernel)
set_option maxRecDepth 20000 in
theorem gL_law_X1_bits : GoodIn wsL_law (wsV RL 140 RX1 yX1_bits wsX1_bits) := goodIn_app (goodIn_of _ (by decide +kernel)) ggL_law_X1_bits
set_option maxRecDepth 20000 in
theorem ggL_law_L_follow : GoodIn wsL_law wsL_follow := goodIn_ca (goodIn_r _ [342, 71, 343, 344, 345, 2, 346, 28, 30, 303, 304, 305, 306, 77, 78, 269, 270, 271, 272, 79, 80, 81, 239, 240, 241, 242, 115, 116, 117, 118, 111, 112, 113, 114, 119, 120, 121, 122, 575, 576, 577, 578, 579, 580, 581, 582, 583, 584] (by decide +kernel) (by decide +kernel)) (goodIn_sub (fun _ h => List.mem_append_left _ (List.mem_append_right _ h)) (by decide +kernel))
set_option maxRecDepth 20000 in
theorem gL_law_L_follow : GoodIn wsL_law (va_wsS RL 141 yL_follow wsL_follow) := goodIn_app (goodIn_of _ (by decide +kernel)) ggL_law_L_follow
set_option maxRecDepth 20000 in
theorem ggL_law_X1_follow : GoodIn wsL_law wsX1_follow := goodIn_r _ [350, 54, 45, 312, 313, 314, 5, 315, 49, 281, 282, 283, 284, 47, 175, 176, 177, 178, 179, 180, 181, 182, 183, 184, 174, 585, 586, 587, 588, 589, 590, 591, 592, 593, 594, 595, 596, 597, 598, 599, 600, 601, 602, 603, 604, 605] (by decide +kernel) (by decide +kernel)
set_option maxRecDepth 20000 in
theorem gL_law_X1_follow : GoodIn wsL_law (wsV RL 144 RX1 yX1_follow wsX1_follow) := goodIn_app (goodIn_of _ (by decide +kernel)) ggL_law_X1_follow
set_option maxRecDepth 20000 in
theorem ggL_law_L_set : GoodIn wsL_law wsL_set := goodIn_ca (goodIn_r _ [353, 71, 354, 355, 356, 2, 357, 28, 358, 359, 360, 361, 77, 78, 269, 270, 271, 272, 30, 79, 80, 81, 239, 240, 241, 242, 111, 112, 113, 114, 115, 116, 117, 118, 127, 128, 129, 130, 575, 576, 577, 578, 579, 580, 581, 582, 583, 584] (by decide +kernel) (by decide +kernel)) (goodIn_sub (fun _ h => List.mem_append_left _ (List.mem_append_right _ h)) (by decide +kernel))
set_option maxRecDepth 20000 in
theorem gL_law_L_set : GoodIn wsL_law (va_wsS RL 145 yL_set wsL_set) := goodIn_app (goodIn_of _ (by decide +kernel)) ggL_law_L_set
set_option maxRecDepth 20000 in
theorem ggL_law_X1_set : GoodIn wsL_law wsX1_set := goodIn_r _ [365, 56, 45, 366, 367, 368, 5, 369, 50, 281, 282, 283, 284, 47, 175, 176, 177, 178, 179, 180, 181, 182, 183, 184, 174, 585, 586, 587, 588, 589, 590, 591, 592, 593, 594, 595, 596, 597, 598, 599, 600, 601, 602, 603, 604, 605] (by decide +kernel) (by decide +kernel)
set_option maxRecDepth 20000 in
theorem gL_law_X1_set : GoodIn wsL_law (wsV RL 147 RX1 yX1_set wsX1_set) := goodIn_app (goodIn_of _ (by decide +kernel)) ggL_law_X1_set
set_option maxRecDepth 20000 in
theorem ggL_law_L_get : GoodIn wsL_law wsL_get := goodIn_ca (goodIn_r _ [372, 71, 373, 374, 375, 2, 376, 28, 358, 359, 360, 361, 77, 78, 269, 270, 271, 272, 30, 79, 80, 81, 239, 240, 241, 242, 111, 112, 113, 114, 115, 116, 117, 118, 127, 128, 129, 130, 575, 576, 577, 578, 579, 580, 581, 582, 583, 584] (by decide +kernel) (by decide +kernel)) (goodIn_sub (fun _ h => List.mem_append_left _ (List.mem_append_right _ h)) (by decide +kernel))
set_option maxRecDepth 20000 in
theorem gL_law_L_get : GoodIn wsL_law (va_wsS RL 148 yL_get wsL_get) := goodIn_app (goodIn_of _ (by decide +kernel)) ggL_law_L_get
set_option maxRecDepth 20000 in
theorem ggL_law_X1_get : GoodIn wsL_law wsX1_get := goodIn_r _ [380, 56, 45, 366, 367, 368, 5, 369, 50, 281, 282, 283, 284, 47, 175, 176, 177, 178, 179, 180, 181, 182, 183, 184, 174, 585, 586, 587, 588, 589, 590, 591, 592, 593, 594, 595, 596, 597, 598, 599, 600, 601, 602, 603, 604, 605] (by decide +kernel) (by decide +kernel)
set_option maxRecDepth 20000 in
theorem gL_law_X1_get : GoodIn wsL_law (wsV RL 150 RX1 yX1_get wsX1_get) := goodIn_app (goodIn_of _ (by decide +kernel)) ggL_law_X1_get
set_option maxRecDepth 20000 in
theorem ggL_law_L_text : GoodIn wsL_law wsL_text := goodIn_ca (goodIn_ca (goodIn_r _ [383, 71, 72, 384, 385, 386, 2, 387, 77, 78, 388, 30, 79, 80, 81, 82, 83, 84, 389, 390, 391, 392, 85, 86, 87, 88, 89, 90, 28, 29, 26, 36, 91, 92, 93, 94, 35, 95, 96, 97, 98, 34, 23, 24, 21, 25, 99, 100, 101, 102, 103, 104, 105, 106, 107, 108, 109, 110, 111, 112, 113, 114, 115, 116, 117, 118, 119, 120, 121, 122, 123, 124, 125, 126, 127, 128, 129, 130, 131, 132, 133, 134, 32, 31, 135, 136, 137, 138, 139, 140, 141, 142, 143, 144, 145, 146, 19, 20, 22, 147, 148, 39, 149, 150, 151, 152, 153, 154, 155, 27, 156, 157, 158, 159, 160, 161, 162, 163, 164, 165, 166, 167, 168, 169, 393, 394, 395, 396, 397, 398, 399, 400, 575, 576, 577, 578, 579, 580, 581, 582, 583, 584, 606, 607, 608, 609] (by decide +kernel) (by decide +kernel)) (goodIn_sub (fun _ h => List.mem_append_left _ (List.mem_append_right _ h)) (by decide +kernel))) (goodIn_sub (fun _ h => List.mem_append_right _ h) (by decide +kernel))
set_option maxRecDepth 20000 in
theorem gL_law_L_text : GoodIn wsL_law (va_wsS RL 151 yL_text wsL_text) := goodIn_app (goodIn_of _ (by decide +kernel)) ggL_law_L_text
set_option maxRecDepth 20000 in
theorem ggL_law_X1_text : GoodIn wsL_law wsX1_text := goodIn_r _ [404, 61, 45, 175, 176, 5, 177, 178, 179, 180, 181, 182, 183, 184, 174, 185, 186, 187, 188, 47, 46, 57, 58, 67, 48, 49, 50, 189, 190, 191, 192, 193, 65, 194, 195, 196, 197, 64, 52, 54, 59, 60, 62, 198, 199, 200, 201, 202, 203, 204, 205, 405, 406, 407, 408, 585, 586, 587, 588, 589, 590, 591, 592, 593, 594, 595, 596, 597, 598, 599, 600, 601, 602, 603, 604, 605] (by decide +kernel) (by decide +kernel)
set_option maxRecDepth 20000 in
theorem gL_law_X1_text : GoodIn wsL_law (wsV RL 154 RX1 yX1_text wsX1_text) := goodIn_app (goodIn_of _ (by decide +kernel)) ggL_law_X1_text
set_option maxRecDepth 20000 in
theorem ggL_law_L_join : GoodIn wsL_law wsL_join := goodIn_ca (goodIn_ca (goodIn_r _ [411, 71, 72, 412, 413, 414, 2, 415, 89, 90, 30, 79, 80, 81, 77, 78, 416, 417, 418, 419, 239, 240, 241, 242, 28, 420, 421, 422, 423, 424, 425, 426, 427, 111, 112, 113, 114, 428, 429, 430, 431, 389, 390, 391, 392, 85, 86, 87, 88, 29, 26, 36, 91, 92, 93, 94, 35, 95, 96, 97, 98, 34, 23, 24, 21, 25, 99, 100, 101, 102, 103, 104, 105, 106, 107, 108, 109, 110, 115, 116, 117, 118, 119, 120, 121, 122, 123, 124, 125, 126, 127, 128, 129, 130, 131, 132, 133, 134, 32, 31, 135, 136, 137, 138, 139, 140, 141, 142, 143, 144, 145, 146, 19, 20, 22, 147, 148, 39, 149, 150, 151, 152, 153, 154, 155, 27, 156, 157, 158, 159, 160, 161, 162, 163, 164, 165, 166, 167, 168, 169, 393, 394, 395, 396, 432, 433, 434, 435, 436, 437, 438, 439, 388, 397, 398, 399, 400, 440, 441, 442, 443, 575, 576, 577, 578, 579, 580, 581, 582, 583, 584, 606, 607, 608, 609] (by decide +kernel) (by decide +kernel)) (goodIn_sub (fun _ h => List.mem_append_right _ h) (by decide +kernel))) (goodIn_sub (fun _ h => List.mem_append_left _ (List.mem_append_right _ h)) (by decide +kernel))
set_option maxRecDepth 20000 in
theorem gL_law_L_join : GoodIn wsL_law (va_wsS RL 155 yL_join wsL_join) := goodIn_app (goodIn_of _ (by decide +kernel)) ggL_law_L_join
set_option maxRecDepth 20000 in
theorem ggL_law_X1_join : GoodIn wsL_law wsX1_join := goodIn_r _ [447, 45, 57, 59, 60, 175, 176, 5, 177, 178, 179, 180, 448, 449, 450, 451, 47, 181, 182, 183, 184, 174, 185, 186, 187, 188, 46, 58, 67, 48, 49, 50, 189, 190, 191, 192, 193, 65, 194, 195, 196, 197, 64, 52, 54, 62, 198, 199, 200, 201, 202, 203, 204, 205, 405, 406, 407, 408, 585, 586, 587, 588, 589, 590, 591, 592, 593, 594, 595, 596, 597, 598, 599, 600, 601, 602, 603, 604, 605] (by decide +kernel) (by decide +kernel)
set_option maxRecDepth 20000 in
theorem gL_law_X1_join : GoodIn wsL_law (wsV RL 157 RX1 yX1_join wsX1_join) := goodIn_app (goodIn_of _ (by decide +kernel)) ggL_law_X1_join
set_option maxRecDepth 20000 in
theorem ggL_law_L_part : GoodIn wsL_law wsL_part := goodIn_ca (goodIn_ca (goodIn_r _ [454, 71, 72, 455, 456, 457, 2, 458, 77, 78, 30, 79, 80, 81, 416, 417, 418, 419, 239, 240, 241, 242, 28, 420, 421, 422, 423, 424, 425, 426, 427, 111, 112, 113, 114, 459, 460, 461, 462, 389, 390, 391, 392, 85, 86, 87, 88, 89, 90, 29, 26, 36, 91, 92, 93, 94, 35, 95, 96, 97, 98, 34, 23, 24, 21, 25, 99, 100, 101, 102, 103, 104, 105, 106, 107, 108, 109, 110, 115, 116, 117, 118, 119, 120, 121, 122, 123, 124, 125, 126, 127, 128, 129, 130, 131, 132, 133, 134, 32, 31, 135, 136, 137, 138, 139, 140, 141, 142, 143, 144, 145, 146, 19, 20, 22, 147, 148, 39, 149, 150, 151, 152, 153, 154, 155, 27, 156, 157, 158, 159, 160, 161, 162, 163, 164, 165, 166, 167, 168, 169, 393, 394, 395, 396, 463, 464, 465, 466, 33, 467, 468, 469, 470, 432, 433, 434, 435, 436, 437, 438, 439, 388, 397, 398, 399, 400, 575, 576, 577, 578, 579, 580, 581, 582, 583, 584, 606, 607, 608, 609] (by decide +kernel) (by decide +kernel)) (goodIn_sub (fun _ h => List.mem_append_left _ (List.mem_append_right _ h)) (by decide +kernel))) (goodIn_sub (fun _ h => List.mem_append_right _ h) (by decide +kernel))
set_option maxRecDepth 20000 in
theorem gL_law_L_part : GoodIn wsL_law (va_wsS RL 158 yL_part wsL_part) := goodIn_app (goodIn_of _ (by decide +kernel)) ggL_law_L_part
set_option maxRecDepth 20000 in
theorem ggL_law_X1_part : GoodIn wsL_law wsX1_part := goodIn_r _ [474, 57, 45, 175, 176, 5, 177, 178, 179, 180, 448, 449, 450, 451, 47, 181, 182, 183, 184, 174, 475, 476, 477, 478, 59, 60, 479, 480, 481, 482, 62, 185, 186, 187, 188, 46, 58, 67, 48, 49, 50, 189, 190, 191, 192, 193, 65, 194, 195, 196, 197, 64, 52, 54, 198, 199, 200, 201, 202, 203, 204, 205, 405, 406, 407, 408, 585, 586, 587, 588, 589, 590, 591, 592, 593, 594, 595, 596, 597, 598, 599, 600, 601, 602, 603, 604, 605] (by decide +kernel) (by decide +kernel)
set_option maxRecDepth 20000 in
theorem gL_law_X1_part : GoodIn wsL_law (wsV RL 160 RX1 yX1_part wsX1_part) := goodIn_app (goodIn_of _ (by decide +kernel)) ggL_law_X1_part
set_option maxRecDepth 20000 in
theorem ggL_law_L_length : GoodIn wsL_law wsL_length := goodIn_ca (goodIn_r _ [485, 71, 486, 487, 488, 2, 489, 416, 417, 418, 419, 77, 78, 30, 79, 80, 81, 239, 240, 241, 242, 28, 420, 421, 422, 423, 424, 425, 426, 427, 111, 112, 113, 114, 575, 576, 577, 578, 579, 580, 581, 582, 583, 584] (by decide +kernel) (by decide +kernel)) (goodIn_sub (fun _ h => List.mem_append_left _ (List.mem_append_right _ h)) (by decide +kernel))
set_option maxRecDepth 20000 in
theorem gL_law_L_length : GoodIn wsL_law (va_wsS RL 161 yL_length wsL_length) := goodIn_app (goodIn_of _ (by decide +kernel)) ggL_law_L_length
set_option maxRecDepth 20000 in
theorem ggL_law_X1_length : GoodIn wsL_law wsX1_length := goodIn_r _ [493, 57, 45, 448, 449, 450, 5, 451, 47, 175, 176, 177, 178, 179, 180, 181, 182, 183, 184, 174, 585, 586, 587, 588, 589, 590, 591, 592, 593, 594, 595, 596, 597, 598, 599, 600, 601, 602, 603, 604, 605] (by decide +kernel) (by decide +kernel)
set_option maxRecDepth 20000 in
theorem gL_law_X1_length : GoodIn wsL_law (wsV RL 163 RX1 yX1_length wsX1_length) := goodIn_app (goodIn_of _ (by decide +kernel)) ggL_law_X1_length
set_option maxRecDepth 20000 in
theorem ggL_law_L_unit : GoodIn wsL_law wsL_unit := goodIn_ca (goodIn_ca (goodIn_r _ [496, 71, 72, 497, 498, 499, 2, 500, 77, 78, 30, 416, 417, 418, 419, 79, 80, 81, 239, 240, 241, 242, 28, 420, 421, 422, 423, 424, 425, 426, 427, 111, 112, 113, 114, 459, 460, 461, 462, 389, 390, 391, 392, 85, 86, 87, 88, 89, 90, 29, 26, 36, 91, 92, 93, 94, 35, 95, 96, 97, 98, 34, 23, 24, 21, 25, 99, 100, 101, 102, 103, 104, 105, 106, 107, 108, 109, 110, 115, 116, 117, 118, 119, 120, 121, 122, 123, 124, 125, 126, 127, 128, 129, 130, 131, 132, 133, 134, 32, 31, 135, 136, 137, 138, 139, 140, 141, 142, 143, 144, 145, 146, 19, 20, 22, 147, 148, 39, 149, 150, 151, 152, 153, 154, 155, 27, 156, 157, 158, 159, 160, 161, 162, 163, 164, 165, 166, 167, 168, 169, 393, 394, 395, 396, 463, 464, 465, 466, 33, 467, 468, 469, 470, 432, 433, 434, 435, 436, 437, 438, 439, 388, 397, 398, 399, 400, 575, 576, 577, 578, 579, 580, 581, 582, 583, 584, 606, 607, 608, 609] (by decide +kernel) (by decide +kernel)) (goodIn_sub (fun _ h => List.mem_append_left _ (List.mem_append_right _ h)) (by decide +kernel))) (goodIn_sub (fun _ h => List.mem_append_right _ h) (by decide +kernel))
set_option maxRecDepth 20000 in
theorem gL_law_L_unit : GoodIn wsL_law (va_wsS RL 164 yL_unit wsL_unit) := goodIn_app (goodIn_of _ (by decide +kernel)) ggL_law_L_unit
set_option maxRecDepth 20000 in
theorem ggL_law_X1_unit : GoodIn wsL_law wsX1_unit := goodIn_r _ [504, 57, 45, 174, 448, 449, 450, 5, 451, 47, 175, 176, 177, 178, 179, 180, 181, 182, 183, 184, 479, 480, 481, 482, 59, 60, 62, 185, 186, 187, 188, 46, 58, 67, 48, 49, 50, 189, 190, 191, 192, 193, 65, 194, 195, 196, 197, 64, 52, 54, 198, 199, 200, 201, 202, 203, 204, 205, 505, 506, 507, 508, 61, 509, 585, 586, 587, 588, 589, 590, 591, 592, 593, 594, 595, 596, 597, 598, 599, 600, 601, 602, 603, 604, 605] (by decide +kernel) (by decide +kernel)
set_option maxRecDepth 20000 in
theorem gL_law_X1_unit : GoodIn wsL_law (wsV RL 166 RX1 yX1_unit wsX1_unit) := goodIn_app (goodIn_of _ (by decide +kernel)) ggL_law_X1_unit
set_option maxRecDepth 20000 in
theorem ggL_law_L_compare : GoodIn wsL_law wsL_compare := goodIn_ca (goodIn_ca (goodIn_r _ [512, 71, 72, 513, 514, 515, 2, 516, 30, 19, 20, 21, 22, 416, 417, 418, 419, 77, 78, 79, 80, 81, 239, 240, 241, 242, 28, 459, 460, 461, 462, 420, 421, 422, 423, 424, 425, 426, 427, 111, 112, 113, 114, 389, 390, 391, 392, 85, 86, 87, 88, 89, 90, 29, 26, 36, 91, 92, 93, 94, 35, 95, 96, 97, 98, 34, 23, 24, 25, 99, 100, 101, 102, 103, 104, 105, 106, 107, 108, 109, 110, 115, 116, 117, 118, 119, 120, 121, 122, 123, 124, 125, 126, 127, 128, 129, 130, 131, 132, 133, 134, 32, 31, 135, 136, 137, 138, 139, 140, 141, 142, 143, 144, 145, 146, 147, 148, 39, 149, 150, 151, 152, 153, 154, 155, 27, 156, 157, 158, 159, 160, 161, 162, 163, 164, 165, 166, 167, 168, 169, 393, 394, 395, 396, 463, 464, 465, 466, 33, 467, 468, 469, 470, 432, 433, 434, 435, 436, 437, 438, 439, 388, 397, 398, 399, 400, 517, 518, 519, 520, 575, 576, 577, 578, 579, 580, 581, 582, 583, 584, 606, 607, 608, 609] (by decide +kernel) (by decide +kernel)) (goodIn_sub (fun _ h => List.mem_append_left _ (List.mem_append_right _ h)) (by decide +kernel))) (goodIn_sub (fun _ h => List.mem_append_right _ h) (by decide +kernel))
set_option maxRecDepth 20000 in
theorem gL_law_L_compare : GoodIn wsL_law (va_wsS RL 167 yL_compare wsL_compare) := goodIn_app (goodIn_of _ (by decide +kernel)) ggL_law_L_compare
set_option maxRecDepth 20000 in
theorem ggL_law_X1_compare : GoodIn wsL_law wsX1_compare := goodIn_r _ [524, 45, 174, 448, 449, 450, 5, 451, 47, 175, 176, 177, 178, 179, 180, 181, 182, 183, 184, 479, 480, 481, 482, 57, 59, 60, 62, 185, 186, 187, 188, 46, 58, 67, 48, 49, 50, 189, 190, 191, 192, 193, 65, 194, 195, 196, 197, 64, 52, 54, 198, 199, 200, 201, 202, 203, 204, 205, 525, 526, 527, 528, 505, 506, 507, 508, 61, 509, 585, 586, 587, 588, 589, 590, 591, 592, 593, 594, 595, 596, 597, 598, 599, 600, 601, 602, 603, 604, 605] (by decide +kernel) (by decide +kernel)
set_option maxRecDepth 20000 in
theorem gL_law_X1_compare : GoodIn wsL_law (wsV RL 169 RX1 yX1_compare wsX1_compare) := goodIn_app (goodIn_of _ (by decide +kernel)) ggL_law_X1_compare
set_option maxRecDepth 20000 in
theorem ggL_law_L_name : GoodIn wsL_law wsL_name := goodIn_ca (goodIn_ca (goodIn_r _ [531, 71, 72, 532, 533, 534, 2, 535, 30, 79, 80, 81, 77, 78, 416, 417, 418, 419, 239, 240, 241, 242, 28, 459, 460, 461, 462, 420, 421, 422, 423, 424, 425, 426, 427, 111, 112, 113, 114, 389, 390, 391, 392, 85, 86, 87, 88, 89, 90, 29, 26, 36, 91, 92, 93, 94, 35, 95, 96, 97, 98, 34, 23, 24, 21, 25, 99, 100, 101, 102, 103, 104, 105, 106, 107, 108, 109, 110, 115, 116, 117, 118, 119, 120, 121, 122, 123, 124, 125, 126, 127, 128, 129, 130, 131, 132, 133, 134, 32, 31, 135, 136, 137, 138, 139, 140, 141, 142, 143, 144, 145, 146, 19, 20, 22, 147, 148, 39, 149, 150, 151, 152, 153, 154, 155, 27, 156, 157, 158, 159, 160, 161, 162, 163, 164, 165, 166, 167, 168, 169, 393, 394, 395, 396, 463, 464, 465, 466, 33, 467, 468, 469, 470, 432, 433, 434, 435, 436, 437, 438, 439, 388, 397, 398, 399, 400, 536, 537, 538, 539, 540, 541, 542, 543, 544, 545, 546, 547, 575, 576, 577, 578, 579, 580, 581, 582, 583, 584, 606, 607, 608, 609] (by decide +kernel) (by decide +kernel)) (goodIn_sub (fun _ h => List.mem_append_left _ (List.mem_append_right _ h)) (by decide +kernel))) (goodIn_sub (fun _ h => List.mem_append_right _ h) (by decide +kernel))
set_option maxRecDepth 20000 in
theorem gL_law_L_name : GoodIn wsL_law (va_wsS RL 170 yL_name wsL_name) := goodIn_app (goodIn_of _ (by decide +kernel)) ggL_law_L_name
set_option maxRecDepth 20000 in
theorem ggL_law_X1_name : GoodIn wsL_law wsX1_name := goodIn_r _ [551, 45, 47, 57, 175, 176, 5, 177, 178, 179, 180, 448, 449, 450, 451, 181, 182, 183, 184, 174, 479, 480, 481, 482, 59, 60, 62, 185, 186, 187, 188, 46, 58, 67, 48, 49, 50, 189, 190, 191, 192, 193, 65, 194, 195, 196, 197, 64, 52, 54, 198, 199, 200, 201, 202, 203, 204, 205, 552, 553, 554, 555, 525, 526, 527, 528, 505, 506, 507, 508, 61, 509, 475, 476, 477, 478, 405, 406, 407, 408, 585, 586, 587, 588, 589, 590, 591, 592, 593, 594, 595, 596, 597, 598, 599, 600, 601, 602, 603, 604, 605] (by decide +kernel) (by decide +kernel)
set_option maxRecDepth 20000 in
theorem gL_law_X1_name : GoodIn wsL_law (wsV RL 172 RX1 yX1_name wsX1_name) := goodIn_app (goodIn_of _ (by decide +kernel)) ggL_law_X1_name
set_option maxRecDepth 20000 in
theorem ggL_law_X0_collect : GoodIn wsL_law wsX0_collect := goodIn_r _ [559, 29, 95, 96, 97, 2, 98, 34, 28, 23, 24, 21, 25, 99, 100, 101, 102, 30, 103, 104, 105, 106, 107, 108, 109, 110, 111, 112, 113, 114, 115, 116, 117, 118, 119, 120, 121, 122, 123, 124, 125, 126, 127, 128, 129, 130, 131, 132, 133, 134, 32, 31, 135, 136, 137, 138, 139, 140, 141, 142, 575, 576, 577, 578, 579, 580, 581, 582, 583, 584] (by decide +kernel) (by decide +kernel)
set_option maxRecDepth 20000 in
theorem gL_law_X0_collect : GoodIn wsL_law (wsV RL 173 RX0 yX0_collect wsX0_collect) := goodIn_app (goodIn_of _ (by decide +kernel)) ggL_law_X0_collect
set_option maxRecDepth 20000 in
theorem ggL_law_X1_collect : GoodIn wsL_law wsX1_collect := goodIn_r _ [563, 174, 189, 190, 191, 5, 192, 193, 65, 194, 195, 196, 197, 46, 64, 45, 48, 52, 49, 54, 47, 59, 60, 62, 198, 199, 200, 201, 202, 203, 204, 205, 50, 57, 585, 586, 587, 588, 589, 590, 591, 592, 593, 594, 595, 596, 597, 598, 599, 600, 601, 602, 603, 604, 605] (by decide +kernel) (by decide +kernel)
set_option maxRecDepth 20000 in
theorem gL_law_X1_collect : GoodIn wsL_law (wsV RL 176 RX1 yX1_collect wsX1_collect) := goodIn_app (goodIn_of _ (by decide +kernel)) ggL_law_X1_collect
set_option maxRecDepth 20000 in
theorem ggL_law_L_stress : GoodIn wsL_law wsL_stress := goodIn_ca (goodIn_r _ [566, 71, 567, 568, 569, 2, 570, 77, 78, 35, 36, 575, 576, 577, 578, 579, 580, 581, 582, 583, 584] (by decide +kernel) (by decide +kernel)) (goodIn_sub (fun _ h => List.mem_append_left _ (List.mem_append_right _ h)) (by decide +kernel))
set_option maxRecDepth 20000 in
theorem gL_law_L_stress : GoodIn wsL_law (va_wsS RL 177 yL_stress wsL_stress) := goodIn_app (goodIn_of _ (by decide +kernel)) ggL_law_L_stress
set_option maxRecDepth 20000 in
theorem ggL_law_X1_stress : GoodIn wsL_law wsX1_stress := goodIn_r _ [574, 174, 585, 586, 587, 588, 589, 590, 591, 592, 593, 594, 595, 596, 597, 598, 599, 600, 601, 602, 603, 604, 605] (by decide +kernel) (by decide +kernel)
set_option maxRecDepth 20000 in
theorem gL_law_X1_stress : GoodIn wsL_law (wsV RL 179 RX1 yX1_stress wsX1_stress) := goodIn_app (goodIn_of _ (by decide +kernel)) ggL_law_X1_stress
