set_option maxRecDepth 20000 in
theorem ggL_law_X1_init : GoodIn wsL_law wsX1_init := goodIn_r _ [9, 10, 11, 12, 13, 14, 15, 16, 17, 18, 19, 20, 21, 22, 23, 24, 25, 26, 27, 28, 29, 30, 31, 32, 672, 673, 674, 675, 676, 677, 678, 679, 680, 687, 688, 689] (by decide +kernel) (by decide +kernel)
set_option maxRecDepth 20000 in
theorem gL_law_X1_init : GoodIn wsL_law (wsX1_init) := ggL_law_X1_init
set_option maxRecDepth 20000 in
theorem ggL_law_X2_init : GoodIn wsL_law wsX2_init := goodIn_r _ [35, 36, 11, 12, 37, 38, 39, 17, 40, 41, 681, 682, 683, 684, 685, 686] (by decide +kernel) (by decide +kernel)
set_option maxRecDepth 20000 in
theorem gL_law_X2_init : GoodIn wsL_law (wsX2_init) := ggL_law_X2_init
set_option maxRecDepth 20000 in
theorem ggL_law_L_addHeading : GoodIn wsL_law wsL_addHeading := goodIn_ca (goodIn_r _ [45, 46, 47, 48, 49, 2, 50, 51, 52, 24, 18, 672, 673, 674, 675, 676, 677, 678, 679, 680] (by decide +kernel) (by decide +kernel)) (goodIn_sub (fun _ h => List.mem_append_left _ (List.mem_append_left _ (List.mem_append_right _ h))) (by decide +kernel))
set_option maxRecDepth 20000 in
theorem gL_law_L_addHeading : GoodIn wsL_law (va_wsS RL 94 yL_addHeading wsL_addHeading) := goodIn_app (goodIn_of _ (by decide +kernel)) ggL_law_L_addHeading
set_option maxRecDepth 20000 in
theorem ggL_law_X2_addHeading : GoodIn wsL_law wsX2_addHeading := goodIn_r _ [56, 57, 58, 40, 59, 60, 61, 5, 62, 681, 682, 683, 684, 685, 686] (by decide +kernel) (by decide +kernel)
set_option maxRecDepth 20000 in
theorem gL_law_X2_addHeading : GoodIn wsL_law (wsV RL 99 RX2 yX2_addHeading wsX2_addHeading) := goodIn_app (goodIn_of _ (by decide +kernel)) ggL_law_X2_addHeading
set_option maxRecDepth 20000 in
theorem ggL_law_X2_thrown : GoodIn wsL_law wsX2_thrown := goodIn_r _ [66, 57, 681, 682, 683, 684, 685, 686] (by decide +kernel) (by decide +kernel)
set_option maxRecDepth 20000 in
theorem gL_law_X2_thrown : GoodIn wsL_law (wsV RL 100 RX2 yX2_thrown wsX2_thrown) := goodIn_app (goodIn_of _ (by decide +kernel)) ggL_law_X2_thrown
set_option maxRecDepth 20000 in
theorem ggL_law_L_addPages : GoodIn wsL_law wsL_addPages := goodIn_ca (goodIn_ca (goodIn_ca (goodIn_r _ [69, 70, 71, 46, 72, 73, 74, 2, 75, 51, 52, 21, 22, 76, 77, 78, 79, 80, 81, 82, 83, 84, 85, 24, 86, 87, 88, 89, 90, 91, 25, 92, 93, 94, 95, 18, 96, 97, 98, 99, 14, 23, 100, 101, 102, 16, 103, 32, 104, 105, 106, 107, 31, 108, 109, 110, 111, 30, 112, 113, 114, 115, 116, 117, 118, 119, 120, 121, 122, 123, 124, 125, 126, 127, 128, 129, 130, 131, 132, 133, 134, 135, 136, 137, 138, 139, 672, 673, 674, 675, 676, 677, 678, 679, 680, 687, 688, 689] (by decide +kernel) (by decide +kernel)) (goodIn_sub (fun _ h => List.mem_append_left _ (List.mem_append_left _ (List.mem_append_right _ h))) (by decide +kernel))) (goodIn_sub (fun _ h => List.mem_append_left _ (List.mem_append_right _ h)) (by decide +kernel))) (goodIn_sub (fun _ h => List.mem_append_right _ h) (by decide +kernel))
set_option maxRecDepth 20000 in
theorem gL_law_L_addPages : GoodIn wsL_law (va_wsS RL 103 yL_addPages wsL_addPages) := goodIn_app (goodIn_of _ (by decide +kernel)) ggL_law_L_addPages
set_option maxRecDepth 20000 in
theorem ggL_law_X2_addPages : GoodIn wsL_law wsX2_addPages := goodIn_r _ [143, 57, 40, 144, 145, 146, 5, 147, 58, 148, 149, 150, 59, 60, 61, 62, 151, 152, 153, 154, 37, 155, 156, 157, 158, 159, 160, 161, 162, 39, 163, 164, 165, 166, 167, 168, 169, 170, 171, 172, 173, 174, 681, 682, 683, 684, 685, 686] (by decide +kernel) (by decide +kernel)
set_option maxRecDepth 20000 in
theorem gL_law_X2_addPages : GoodIn wsL_law (wsV RL 106 RX2 yX2_addPages wsX2_addPages) := goodIn_app (goodIn_of _ (by decide +kernel)) ggL_law_X2_addPages
set_option maxRecDepth 20000 in
theorem ggL_law_L_takePages : GoodIn wsL_law wsL_takePages := goodIn_ca (goodIn_ca (goodIn_ca (goodIn_r _ [177, 70, 71, 46, 178, 179, 180, 2, 181, 22, 76, 77, 78, 79, 80, 81, 82, 83, 84, 85, 24, 86, 87, 88, 89, 90, 91, 25, 96, 97, 98, 99, 14, 23, 182, 183, 184, 16, 185, 32, 30, 31, 186, 187, 110, 188, 108, 109, 111, 189, 190, 191, 192, 104, 105, 106, 107, 124, 125, 126, 127, 51, 52, 128, 129, 130, 131, 193, 194, 195, 196, 132, 133, 134, 135, 136, 137, 138, 139, 672, 673, 674, 675, 676, 677, 678, 679, 680, 687, 688, 689] (by decide +kernel) (by decide +kernel)) (goodIn_sub (fun _ h => List.mem_append_left _ (List.mem_append_right _ h)) (by decide +kernel))) (goodIn_sub (fun _ h => List.mem_append_right _ h) (by decide +kernel))) (goodIn_sub (fun _ h => List.mem_append_left _ (List.mem_append_left _ (List.mem_append_right _ h))) (by decide +kernel))
set_option maxRecDepth 20000 in
theorem gL_law_L_takePages : GoodIn wsL_law (va_wsS RL 107 yL_takePages wsL_takePages) := goodIn_app (goodIn_of _ (by decide +kernel)) ggL_law_L_takePages
set_option maxRecDepth 20000 in
theorem ggL_law_X2_takePages : GoodIn wsL_law wsX2_takePages := goodIn_r _ [200, 57, 144, 145, 146, 5, 147, 58, 148, 149, 150, 59, 60, 61, 62, 151, 152, 153, 154, 37, 155, 156, 157, 158, 159, 160, 161, 162, 39, 201, 202, 203, 204, 163, 164, 165, 166, 167, 168, 169, 170, 681, 682, 683, 684, 685, 686] (by decide +kernel) (by decide +kernel)
set_option maxRecDepth 20000 in
theorem gL_law_X2_takePages : GoodIn wsL_law (wsV RL 109 RX2 yX2_takePages wsX2_takePages) := goodIn_app (goodIn_of _ (by decide +kernel)) ggL_law_X2_takePages
set_option maxRecDepth 20000 in
theorem ggL_law_L_setSee : GoodIn wsL_law wsL_setSee := goodIn_ca (goodIn_ca (goodIn_ca (goodIn_r _ [207, 70, 71, 46, 208, 209, 210, 2, 211, 18, 76, 77, 78, 79, 80, 81, 82, 83, 84, 85, 24, 212, 213, 214, 215, 90, 91, 216, 217, 218, 219, 51, 52, 96, 97, 98, 99, 14, 23, 128, 129, 130, 16, 131, 32, 672, 673, 674, 675, 676, 677, 678, 679, 680, 687, 688, 689] (by decide +kernel) (by decide +kernel)) (goodIn_sub (fun _ h => List.mem_append_left _ (List.mem_append_right _ h)) (by decide +kernel))) (goodIn_sub (fun _ h => List.mem_append_right _ h) (by decide +kernel))) (goodIn_sub (fun _ h => List.mem_append_left _ (List.mem_append_left _ (List.mem_append_right _ h))) (by decide +kernel))
set_option maxRecDepth 20000 in
theorem gL_law_L_setSee : GoodIn wsL_law (va_wsS RL 110 yL_setSee wsL_setSee) := goodIn_app (goodIn_of _ (by decide +kernel)) ggL_law_L_setSee
set_option maxRecDepth 20000 in
theorem ggL_law_X2_setSee : GoodIn wsL_law wsX2_setSee := goodIn_r _ [223, 57, 40, 144, 145, 146, 5, 147, 58, 148, 149, 150, 59, 60, 61, 62, 201, 202, 203, 204, 37, 159, 160, 161, 162, 39, 681, 682, 683, 684, 685, 686] (by decide +kernel) (by decide +kernel)
set_option maxRecDepth 20000 in
theorem gL_law_X2_setSee : GoodIn wsL_law (wsV RL 113 RX2 yX2_setSee wsX2_setSee) := goodIn_app (goodIn_of _ (by decide +kernel)) ggL_law_X2_setSee
set_option maxRecDepth 20000 in
theorem ggL_law_L_turnSeeAlso : GoodIn wsL_law wsL_turnSeeAlso := goodIn_ca (goodIn_ca (goodIn_ca (goodIn_r _ [226, 70, 71, 46, 227, 228, 229, 2, 230, 51, 52, 19, 76, 77, 78, 79, 80, 81, 82, 83, 84, 85, 24, 212, 213, 214, 215, 90, 91, 231, 232, 233, 234, 235, 236, 237, 238, 239, 240, 672, 673, 674, 675, 676, 677, 678, 679, 680] (by decide +kernel) (by decide +kernel)) (goodIn_sub (fun _ h => List.mem_append_left _ (List.mem_append_left _ (List.mem_append_right _ h))) (by decide +kernel))) (goodIn_sub (fun _ h => List.mem_append_left _ (List.mem_append_right _ h)) (by decide +kernel))) (goodIn_sub (fun _ h => List.mem_append_right _ h) (by decide +kernel))
set_option maxRecDepth 20000 in
theorem gL_law_L_turnSeeAlso : GoodIn wsL_law (va_wsS RL 114 yL_turnSeeAlso wsL_turnSeeAlso) := goodIn_app (goodIn_of _ (by decide +kernel)) ggL_law_L_turnSeeAlso
set_option maxRecDepth 20000 in
theorem ggL_law_X2_turnSeeAlso : GoodIn wsL_law wsX2_turnSeeAlso := goodIn_r _ [244, 57, 41, 144, 145, 146, 5, 147, 58, 148, 149, 150, 59, 60, 61, 62, 245, 235, 236, 237, 238, 239, 240, 681, 682, 683, 684, 685, 686] (by decide +kernel) (by decide +kernel)
set_option maxRecDepth 20000 in
theorem gL_law_X2_turnSeeAlso : GoodIn wsL_law (wsV RL 116 RX2 yX2_turnSeeAlso wsX2_turnSeeAlso) := goodIn_app (goodIn_of _ (by decide +kernel)) ggL_law_X2_turnSeeAlso
set_option maxRecDepth 20000 in
theorem ggL_law_L_putIn : GoodIn wsL_law wsL_putIn := goodIn_ca (goodIn_ca (goodIn_r _ [248, 71, 46, 249, 250, 251, 2, 252, 90, 91, 51, 52, 25, 24, 96, 97, 98, 99, 14, 23, 82, 83, 84, 85, 253, 254, 255, 16, 256, 32, 30, 31, 672, 673, 674, 675, 676, 677, 678, 679, 680, 687, 688, 689] (by decide +kernel) (by decide +kernel)) (goodIn_sub (fun _ h => List.mem_append_right _ h) (by decide +kernel))) (goodIn_sub (fun _ h => List.mem_append_left _ (List.mem_append_left _ (List.mem_append_right _ h))) (by decide +kernel))
set_option maxRecDepth 20000 in
theorem gL_law_L_putIn : GoodIn wsL_law (va_wsS RL 117 yL_putIn wsL_putIn) := goodIn_app (goodIn_of _ (by decide +kernel)) ggL_law_L_putIn
set_option maxRecDepth 20000 in
theorem ggL_law_X2_putIn : GoodIn wsL_law wsX2_putIn := goodIn_r _ [260, 57, 37, 58, 148, 149, 5, 150, 59, 60, 61, 62, 159, 160, 161, 162, 39, 167, 168, 169, 170, 163, 164, 165, 166, 681, 682, 683, 684, 685, 686] (by decide +kernel) (by decide +kernel)
set_option maxRecDepth 20000 in
theorem gL_law_X2_putIn : GoodIn wsL_law (wsV RL 119 RX2 yX2_putIn wsX2_putIn) := goodIn_app (goodIn_of _ (by decide +kernel)) ggL_law_X2_putIn
set_option maxRecDepth 20000 in
theorem ggL_law_L_takeOut : GoodIn wsL_law wsL_takeOut := goodIn_ca (goodIn_ca (goodIn_r _ [263, 71, 46, 264, 265, 266, 2, 267, 51, 52, 25, 24, 22, 268, 269, 270, 271, 90, 91, 272, 273, 274, 275, 96, 97, 98, 99, 14, 23, 82, 83, 84, 85, 276, 277, 278, 16, 279, 32, 30, 31, 280, 281, 282, 283, 189, 190, 191, 192, 104, 105, 106, 107, 108, 109, 110, 111, 132, 133, 134, 135, 136, 137, 138, 139, 672, 673, 674, 675, 676, 677, 678, 679, 680, 687, 688, 689] (by decide +kernel) (by decide +kernel)) (goodIn_sub (fun _ h => List.mem_append_left _ (List.mem_append_left _ (List.mem_append_right _ h))) (by decide +kernel))) (goodIn_sub (fun _ h => List.mem_append_right _ h) (by decide +kernel))
set_option maxRecDepth 20000 in
theorem gL_law_L_takeOut : GoodIn wsL_law (va_wsS RL 120 yL_takeOut wsL_takeOut) := goodIn_app (goodIn_of _ (by decide +kernel)) ggL_law_L_takeOut
set_option maxRecDepth 20000 in
theorem ggL_law_X2_takeOut : GoodIn wsL_law wsX2_takeOut := goodIn_r _ [287, 57, 37, 58, 288, 289, 290, 5, 291, 148, 149, 150, 59, 60, 61, 62, 292, 293, 294, 295, 159, 160, 161, 162, 39, 167, 168, 169, 170, 681, 682, 683, 684, 685, 686] (by decide +kernel) (by decide +kernel)
set_option maxRecDepth 20000 in
theorem gL_law_X2_takeOut : GoodIn wsL_law (wsV RL 123 RX2 yX2_takeOut wsX2_takeOut) := goodIn_app (goodIn_of _ (by decide +kernel)) ggL_law_X2_takeOut
set_option maxRecDepth 20000 in
theorem ggL_law_X1_bookPages : GoodIn wsL_law wsX1_bookPages := goodIn_r _ [299, 25, 672, 673, 674, 675, 676, 677, 678, 679, 680] (by decide +kernel) (by decide +kernel)
set_option maxRecDepth 20000 in
theorem gL_law_X1_bookPages : GoodIn wsL_law (wsV RL 124 RX1 yX1_bookPages wsX1_bookPages) := goodIn_app (goodIn_of _ (by decide +kernel)) ggL_law_X1_bookPages
set_option maxRecDepth 20000 in
theorem ggL_law_X2_bookPages : GoodIn wsL_law wsX2_bookPages := goodIn_r _ [303, 37, 304, 305, 306, 5, 307, 57, 681, 682, 683, 684, 685, 686] (by decide +kernel) (by decide +kernel)
set_option maxRecDepth 20000 in
theorem gL_law_X2_bookPages : GoodIn wsL_law (wsV RL 127 RX2 yX2_bookPages wsX2_bookPages) := goodIn_app (goodIn_of _ (by decide +kernel)) ggL_law_X2_bookPages
set_option maxRecDepth 20000 in
theorem ggL_law_X1_headings : GoodIn wsL_law wsX1_headings := goodIn_r _ [311, 24, 672, 673, 674, 675, 676, 677, 678, 679, 680] (by decide +kernel) (by decide +kernel)
set_option maxRecDepth 20000 in
theorem gL_law_X1_headings : GoodIn wsL_law (wsV RL 128 RX1 yX1_headings wsX1_headings) := goodIn_app (goodIn_of _ (by decide +kernel)) ggL_law_X1_headings
set_option maxRecDepth 20000 in
theorem ggL_law_X2_headings : GoodIn wsL_law wsX2_headings := goodIn_r _ [315, 58, 304, 305, 306, 5, 307, 57, 681, 682, 683, 684, 685, 686] (by decide +kernel) (by decide +kernel)
set_option maxRecDepth 20000 in
theorem gL_law_X2_headings : GoodIn wsL_law (wsV RL 131 RX2 yX2_headings wsX2_headings) := goodIn_app (goodIn_of _ (by decide +kernel)) ggL_law_X2_headings
set_option maxRecDepth 20000 in
theorem ggL_law_L_spansOf : GoodIn wsL_law wsL_spansOf := goodIn_ca (goodIn_r _ [318, 70, 319, 320, 321, 2, 322, 76, 77, 78, 79, 80, 81, 82, 83, 84, 85, 24, 96, 97, 98, 99, 14, 23, 128, 129, 130, 16, 131, 32, 672, 673, 674, 675, 676, 677, 678, 679, 680, 687, 688, 689] (by decide +kernel) (by decide +kernel)) (goodIn_sub (fun _ h => List.mem_append_left _ (List.mem_append_right _ h)) (by decide +kernel))
set_option maxRecDepth 20000 in
theorem gL_law_L_spansOf : GoodIn wsL_law (va_wsS RL 132 yL_spansOf wsL_spansOf) := goodIn_app (goodIn_of _ (by decide +kernel)) ggL_law_L_spansOf
set_option maxRecDepth 20000 in
theorem ggL_law_X2_spansOf : GoodIn wsL_law wsX2_spansOf := goodIn_r _ [326, 57, 144, 145, 146, 5, 147, 58, 148, 149, 150, 171, 172, 173, 174, 37, 159, 160, 161, 162, 39, 59, 60, 61, 62, 681, 682, 683, 684, 685, 686] (by decide +kernel) (by decide +kernel)
set_option maxRecDepth 20000 in
theorem gL_law_X2_spansOf : GoodIn wsL_law (wsV RL 134 RX2 yX2_spansOf wsX2_spansOf) := goodIn_app (goodIn_of _ (by decide +kernel)) ggL_law_X2_spansOf
set_option maxRecDepth 20000 in
theorem ggL_law_L_startOf : GoodIn wsL_law wsL_startOf := goodIn_ca (goodIn_r _ [329, 70, 330, 331, 332, 2, 333, 76, 77, 78, 79, 80, 81, 82, 83, 84, 85, 24, 334, 335, 336, 337, 96, 97, 98, 99, 14, 23, 128, 129, 130, 16, 131, 32, 338, 117, 118, 119, 30, 672, 673, 674, 675, 676, 677, 678, 679, 680, 687, 688, 689] (by decide +kernel) (by decide +kernel)) (goodIn_sub (fun _ h => List.mem_append_left _ (List.mem_append_right _ h)) (by decide +kernel))
set_option maxRecDepth 20000 in
theorem gL_law_L_startOf : GoodIn wsL_law (va_wsS RL 135 yL_startOf wsL_startOf) := goodIn_app (goodIn_of _ (by decide +kernel)) ggL_law_L_startOf
set_option maxRecDepth 20000 in
theorem ggL_law_X2_startOf : GoodIn wsL_law wsX2_startOf := goodIn_r _ [342, 57, 343, 344, 345, 5, 346, 144, 145, 146, 147, 58, 148, 149, 150, 171, 172, 173, 174, 37, 159, 160, 161, 162, 39, 347, 348, 349, 350, 59, 60, 61, 62, 681, 682, 683, 684, 685, 686] (by decide +kernel) (by decide +kernel)
set_option maxRecDepth 20000 in
theorem gL_law_X2_startOf : GoodIn wsL_law (wsV RL 137 RX2 yX2_startOf wsX2_startOf) := goodIn_app (goodIn_of _ (by decide +kernel)) ggL_law_X2_startOf
set_option maxRecDepth 20000 in
theorem ggL_law_L_endOf : GoodIn wsL_law wsL_endOf := goodIn_ca (goodIn_r _ [353, 70, 354, 355, 356, 2, 357, 76, 77, 78, 79, 80, 81, 82, 83, 84, 85, 24, 334, 335, 336, 337, 96, 97, 98, 99, 14, 23, 128, 129, 130, 16, 131, 32, 358, 121, 122, 123, 31, 672, 673, 674, 675, 676, 677, 678, 679, 680, 687, 688, 689] (by decide +kernel) (by decide +kernel)) (goodIn_sub (fun _ h => List.mem_append_left _ (List.mem_append_right _ h)) (by decide +kernel))
set_option maxRecDepth 20000 in
theorem gL_law_L_endOf : GoodIn wsL_law (va_wsS RL 138 yL_endOf wsL_endOf) := goodIn_app (goodIn_of _ (by decide +kernel)) ggL_law_L_endOf
set_option maxRecDepth 20000 in
theorem ggL_law_X2_endOf : GoodIn wsL_law wsX2_endOf := goodIn_r _ [362, 57, 343, 344, 345, 5, 346, 144, 145, 146, 147, 58, 148, 149, 150, 171, 172, 173, 174, 37, 159, 160, 161, 162, 39, 363, 364, 365, 366, 347, 348, 349, 350, 59, 60, 61, 62, 681, 682, 683, 684, 685, 686] (by decide +kernel) (by decide +kernel)
set_option maxRecDepth 20000 in
theorem gL_law_X2_endOf : GoodIn wsL_law (wsV RL 140 RX2 yX2_endOf wsX2_endOf) := goodIn_app (goodIn_of _ (by decide +kernel)) ggL_law_X2_endOf
set_option maxRecDepth 20000 in
theorem ggL_law_L_pagesOf : GoodIn wsL_law wsL_pagesOf := goodIn_ca (goodIn_r _ [369, 70, 370, 371, 372, 2, 373, 76, 77, 78, 79, 80, 81, 82, 83, 84, 85, 24, 96, 97, 98, 99, 14, 23, 193, 194, 195, 16, 196, 32, 31, 30, 672, 673, 674, 675, 676, 677, 678, 679, 680, 687, 688, 689] (by decide +kernel) (by decide +kernel)) (goodIn_sub (fun _ h => List.mem_append_left _ (List.mem_append_right _ h)) (by decide +kernel))
set_option maxRecDepth 20000 in
theorem gL_law_L_pagesOf : GoodIn wsL_law (va_wsS RL 141 yL_pagesOf wsL_pagesOf) := goodIn_app (goodIn_of _ (by decide +kernel)) ggL_law_L_pagesOf
set_option maxRecDepth 20000 in
theorem ggL_law_X2_pagesOf : GoodIn wsL_law wsX2_pagesOf := goodIn_r _ [377, 57, 144, 145, 146, 5, 147, 58, 148, 149, 150, 201, 202, 203, 204, 37, 159, 160, 161, 162, 39, 59, 60, 61, 62, 681, 682, 683, 684, 685, 686] (by decide +kernel) (by decide +kernel)
set_option maxRecDepth 20000 in
theorem gL_law_X2_pagesOf : GoodIn wsL_law (wsV RL 143 RX2 yX2_pagesOf wsX2_pagesOf) := goodIn_app (goodIn_of _ (by decide +kernel)) ggL_law_X2_pagesOf
set_option maxRecDepth 20000 in
theorem ggL_law_L_seeOf : GoodIn wsL_law wsL_seeOf := goodIn_ca (goodIn_r _ [380, 70, 381, 382, 383, 2, 384, 76, 77, 78, 79, 80, 81, 82, 83, 84, 85, 24, 92, 93, 94, 95, 18, 672, 673, 674, 675, 676, 677, 678, 679, 680] (by decide +kernel) (by decide +kernel)) (goodIn_sub (fun _ h => List.mem_append_left _ (List.mem_append_right _ h)) (by decide +kernel))
set_option maxRecDepth 20000 in
theorem gL_law_L_seeOf : GoodIn wsL_law (va_wsS RL 144 yL_seeOf wsL_seeOf) := goodIn_app (goodIn_of _ (by decide +kernel)) ggL_law_L_seeOf
set_option maxRecDepth 20000 in
theorem ggL_law_X2_seeOf : GoodIn wsL_law wsX2_seeOf := goodIn_r _ [388, 57, 40, 144, 145, 146, 5, 147, 58, 148, 149, 150, 59, 60, 61, 62, 681, 682, 683, 684, 685, 686] (by decide +kernel) (by decide +kernel)
set_option maxRecDepth 20000 in
theorem gL_law_X2_seeOf : GoodIn wsL_law (wsV RL 146 RX2 yX2_seeOf wsX2_seeOf) := goodIn_app (goodIn_of _ (by decide +kernel)) ggL_law_X2_seeOf
set_option maxRecDepth 20000 in
theorem ggL_law_L_seeAlsosOf : GoodIn wsL_law wsL_seeAlsosOf := goodIn_ca (goodIn_r _ [391, 70, 392, 393, 394, 2, 395, 76, 77, 78, 79, 80, 81, 82, 83, 84, 85, 24, 396, 397, 398, 399, 19, 234, 235, 236, 237, 238, 239, 240, 672, 673, 674, 675, 676, 677, 678, 679, 680] (by decide +kernel) (by decide +kernel)) (goodIn_sub (fun _ h => List.mem_append_left _ (List.mem_append_right _ h)) (by decide +kernel))
set_option maxRecDepth 20000 in
theorem gL_law_L_seeAlsosOf : GoodIn wsL_law (va_wsS RL 147 yL_seeAlsosOf wsL_seeAlsosOf) := goodIn_app (goodIn_of _ (by decide +kernel)) ggL_law_L_seeAlsosOf
set_option maxRecDepth 20000 in
theorem ggL_law_X2_seeAlsosOf : GoodIn wsL_law wsX2_seeAlsosOf := goodIn_r _ [403, 57, 41, 144, 145, 146, 5, 147, 58, 148, 149, 150, 245, 235, 236, 237, 238, 239, 240, 59, 60, 61, 62, 681, 682, 683, 684, 685, 686] (by decide +kernel) (by decide +kernel)
set_option maxRecDepth 20000 in
theorem gL_law_X2_seeAlsosOf : GoodIn wsL_law (wsV RL 149 RX2 yX2_seeAlsosOf wsX2_seeAlsosOf) := goodIn_app (goodIn_of _ (by decide +kernel)) ggL_law_X2_seeAlsosOf
set_option maxRecDepth 20000 in
theorem ggL_law_L_isOn : GoodIn wsL_law wsL_isOn := goodIn_ca (goodIn_ca (goodIn_r _ [406, 70, 71, 407, 408, 409, 2, 410, 76, 77, 78, 79, 80, 81, 82, 83, 84, 85, 24, 268, 269, 270, 271, 90, 91, 25, 96, 97, 98, 99, 14, 23, 276, 277, 278, 16, 279, 32, 30, 31, 672, 673, 674, 675, 676, 677, 678, 679, 680, 687, 688, 689] (by decide +kernel) (by decide +kernel)) (goodIn_sub (fun _ h => List.mem_append_left _ (List.mem_append_right _ h)) (by decide +kernel))) (goodIn_sub (fun _ h => List.mem_append_right _ h) (by decide +kernel))
set_option maxRecDepth 20000 in
theorem gL_law_L_isOn : GoodIn wsL_law (va_wsS RL 150 yL_isOn wsL_isOn) := goodIn_app (goodIn_of _ (by decide +kernel)) ggL_law_L_isOn
set_option maxRecDepth 20000 in
theorem ggL_law_X2_isOn : GoodIn wsL_law wsX2_isOn := goodIn_r _ [414, 57, 144, 145, 146, 5, 147, 58, 148, 149, 150, 415, 416, 417, 418, 288, 289, 290, 291, 37, 159, 160, 161, 162, 39, 681, 682, 683, 684, 685, 686] (by decide +kernel) (by decide +kernel)
set_option maxRecDepth 20000 in
theorem gL_law_X2_isOn : GoodIn wsL_law (wsV RL 152 RX2 yX2_isOn wsX2_isOn) := goodIn_app (goodIn_of _ (by decide +kernel)) ggL_law_X2_isOn
set_option maxRecDepth 20000 in
theorem ggL_law_L_headingsOn : GoodIn wsL_law wsL_headingsOn := goodIn_ca (goodIn_r _ [421, 71, 422, 423, 424, 2, 425, 268, 269, 270, 271, 90, 91, 25, 272, 273, 274, 275, 24, 96, 97, 98, 99, 14, 23, 82, 83, 84, 85, 276, 277, 278, 16, 279, 32, 30, 31, 672, 673, 674, 675, 676, 677, 678, 679, 680, 687, 688, 689] (by decide +kernel) (by decide +kernel)) (goodIn_sub (fun _ h => List.mem_append_right _ h) (by decide +kernel))
set_option maxRecDepth 20000 in
theorem gL_law_L_headingsOn : GoodIn wsL_law (va_wsS RL 153 yL_headingsOn wsL_headingsOn) := goodIn_app (goodIn_of _ (by decide +kernel)) ggL_law_L_headingsOn
set_option maxRecDepth 20000 in
theorem ggL_law_X2_headingsOn : GoodIn wsL_law wsX2_headingsOn := goodIn_r _ [429, 57, 288, 289, 290, 5, 291, 37, 148, 149, 150, 292, 293, 294, 295, 58, 159, 160, 161, 162, 39, 59, 60, 61, 62, 681, 682, 683, 684, 685, 686] (by decide +kernel) (by decide +kernel)
set_option maxRecDepth 20000 in
theorem gL_law_X2_headingsOn : GoodIn wsL_law (wsV RL 155 RX2 yX2_headingsOn wsX2_headingsOn) := goodIn_app (goodIn_of _ (by decide +kernel)) ggL_law_X2_headingsOn
set_option maxRecDepth 20000 in
theorem ggL_law_X1_barePages : GoodIn wsL_law wsX1_barePages := goodIn_r _ [433, 25, 20, 434, 435, 436, 2, 437, 24, 96, 97, 98, 99, 14, 23, 82, 83, 84, 85, 438, 439, 440, 441, 128, 129, 130, 16, 131, 32, 338, 117, 118, 119, 30, 442, 443, 444, 445, 358, 121, 122, 123, 31, 672, 673, 674, 675, 676, 677, 678, 679, 680, 687, 688, 689] (by decide +kernel) (by decide +kernel)
set_option maxRecDepth 20000 in
theorem gL_law_X1_barePages : GoodIn wsL_law (wsV RL 156 RX1 yX1_barePages wsX1_barePages) := goodIn_app (goodIn_of _ (by decide +kernel)) ggL_law_X1_barePages
set_option maxRecDepth 20000 in
theorem ggL_law_X2_barePages : GoodIn wsL_law wsX2_barePages := goodIn_r _ [449, 450, 451, 452, 5, 453, 37, 292, 293, 294, 295, 58, 159, 160, 161, 162, 39, 304, 305, 306, 307, 57, 681, 682, 683, 684, 685, 686] (by decide +kernel) (by decide +kernel)
set_option maxRecDepth 20000 in
theorem gL_law_X2_barePages : GoodIn wsL_law (wsV RL 159 RX2 yX2_barePages wsX2_barePages) := goodIn_app (goodIn_of _ (by decide +kernel)) ggL_law_X2_barePages
set_option maxRecDepth 20000 in
theorem ggL_law_X1_fullestPage : GoodIn wsL_law wsX1_fullestPage := goodIn_r _ [457, 25, 20, 434, 435, 436, 2, 437, 24, 96, 97, 98, 99, 14, 23, 82, 83, 84, 85, 438, 439, 440, 441, 128, 129, 130, 16, 131, 32, 338, 117, 118, 119, 30, 442, 443, 444, 445, 358, 121, 122, 123, 31, 672, 673, 674, 675, 676, 677, 678, 679, 680, 687, 688, 689] (by decide +kernel) (by decide +kernel)
set_option maxRecDepth 20000 in
theorem gL_law_X1_fullestPage : GoodIn wsL_law (wsV RL 160 RX1 yX1_fullestPage wsX1_fullestPage) := goodIn_app (goodIn_of _ (by decide +kernel)) ggL_law_X1_fullestPage
set_option maxRecDepth 20000 in
theorem ggL_law_X2_fullestPage : GoodIn wsL_law wsX2_fullestPage := goodIn_r _ [461, 462, 463, 464, 5, 465, 37, 292, 293, 294, 295, 58, 159, 160, 161, 162, 39, 304, 305, 306, 307, 57, 681, 682, 683, 684, 685, 686] (by decide +kernel) (by decide +kernel)
set_option maxRecDepth 20000 in
theorem gL_law_X2_fullestPage : GoodIn wsL_law (wsV RL 163 RX2 yX2_fullestPage wsX2_fullestPage) := goodIn_app (goodIn_of _ (by decide +kernel)) ggL_law_X2_fullestPage
set_option maxRecDepth 20000 in
theorem ggL_law_L_leadsTo : GoodIn wsL_law wsL_leadsTo := goodIn_ca (goodIn_r _ [468, 70, 469, 470, 471, 2, 472, 76, 77, 78, 79, 80, 81, 82, 83, 84, 85, 24, 473, 474, 475, 476, 92, 93, 94, 95, 18, 672, 673, 674, 675, 676, 677, 678, 679, 680] (by decide +kernel) (by decide +kernel)) (goodIn_sub (fun _ h => List.mem_append_left _ (List.mem_append_right _ h)) (by decide +kernel))
set_option maxRecDepth 20000 in
theorem gL_law_L_leadsTo : GoodIn wsL_law (va_wsS RL 164 yL_leadsTo wsL_leadsTo) := goodIn_app (goodIn_of _ (by decide +kernel)) ggL_law_L_leadsTo
set_option maxRecDepth 20000 in
theorem ggL_law_X2_leadsTo : GoodIn wsL_law wsX2_leadsTo := goodIn_r _ [480, 57, 144, 145, 146, 5, 147, 58, 148, 149, 150, 481, 482, 483, 484, 40, 59, 60, 61, 62, 681, 682, 683, 684, 685, 686] (by decide +kernel) (by decide +kernel)
set_option maxRecDepth 20000 in
theorem gL_law_X2_leadsTo : GoodIn wsL_law (wsV RL 166 RX2 yX2_leadsTo wsX2_leadsTo) := goodIn_app (goodIn_of _ (by decide +kernel)) ggL_law_X2_leadsTo
set_option maxRecDepth 20000 in
theorem ggL_law_X1_vainSees : GoodIn wsL_law wsX1_vainSees := goodIn_r _ [488, 24, 92, 93, 94, 2, 95, 18, 82, 83, 84, 85, 473, 474, 475, 476, 489, 490, 491, 492, 96, 97, 98, 99, 14, 23, 128, 129, 130, 16, 131, 32, 672, 673, 674, 675, 676, 677, 678, 679, 680, 687, 688, 689] (by decide +kernel) (by decide +kernel)
set_option maxRecDepth 20000 in
theorem gL_law_X1_vainSees : GoodIn wsL_law (wsV RL 167 RX1 yX1_vainSees wsX1_vainSees) := goodIn_app (goodIn_of _ (by decide +kernel)) ggL_law_X1_vainSees
set_option maxRecDepth 20000 in
theorem ggL_law_X2_vainSees : GoodIn wsL_law wsX2_vainSees := goodIn_r _ [496, 497, 498, 499, 5, 500, 58, 40, 481, 482, 483, 484, 201, 202, 203, 204, 37, 159, 160, 161, 162, 39, 304, 305, 306, 307, 57, 681, 682, 683, 684, 685, 686] (by decide +kernel) (by decide +kernel)
set_option maxRecDepth 20000 in
theorem gL_law_X2_vainSees : GoodIn wsL_law (wsV RL 170 RX2 yX2_vainSees wsX2_vainSees) := goodIn_app (goodIn_of _ (by decide +kernel)) ggL_law_X2_vainSees
set_option maxRecDepth 20000 in
theorem ggL_law_L_steps : GoodIn wsL_law wsL_steps := goodIn_ca (goodIn_r _ [503, 70, 504, 505, 506, 2, 507, 76, 77, 78, 79, 80, 81, 82, 83, 84, 85, 24, 231, 232, 233, 508, 509, 510, 511, 19, 18, 672, 673, 674, 675, 676, 677, 678, 679, 680] (by decide +kernel) (by decide +kernel)) (goodIn_sub (fun _ h => List.mem_append_left _ (List.mem_append_right _ h)) (by decide +kernel))
set_option maxRecDepth 20000 in
theorem gL_law_L_steps : GoodIn wsL_law (va_wsS RL 171 yL_steps wsL_steps) := goodIn_app (goodIn_of _ (by decide +kernel)) ggL_law_L_steps
set_option maxRecDepth 20000 in
theorem ggL_law_X2_steps : GoodIn wsL_law wsX2_steps := goodIn_r _ [515, 57, 144, 145, 146, 5, 147, 58, 148, 149, 150, 516, 517, 518, 519, 520, 521, 522, 523, 41, 40, 59, 60, 61, 62, 681, 682, 683, 684, 685, 686] (by decide +kernel) (by decide +kernel)
set_option maxRecDepth 20000 in
theorem gL_law_X2_steps : GoodIn wsL_law (wsV RL 173 RX2 yX2_steps wsX2_steps) := goodIn_app (goodIn_of _ (by decide +kernel)) ggL_law_X2_steps
set_option maxRecDepth 20000 in
theorem ggL_law_L_reachOf : GoodIn wsL_law wsL_reachOf := goodIn_ca (goodIn_r _ [526, 70, 527, 528, 529, 2, 530, 76, 77, 78, 79, 80, 81, 82, 83, 84, 85, 24, 531, 532, 533, 534, 231, 232, 233, 535, 536, 537, 538, 508, 509, 510, 511, 19, 18, 234, 235, 236, 237, 238, 239, 240, 672, 673, 674, 675, 676, 677, 678, 679, 680] (by decide +kernel) (by decide +kernel)) (goodIn_sub (fun _ h => List.mem_append_left _ (List.mem_append_right _ h)) (by decide +kernel))
set_option maxRecDepth 20000 in
theorem gL_law_L_reachOf : GoodIn wsL_law (va_wsS RL 174 yL_reachOf wsL_reachOf) := goodIn_app (goodIn_of _ (by decide +kernel)) ggL_law_L_reachOf
set_option maxRecDepth 20000 in
theorem ggL_law_X2_reachOf : GoodIn wsL_law wsX2_reachOf := goodIn_r _ [542, 57, 144, 145, 146, 5, 147, 58, 148, 149, 150, 543, 544, 545, 546, 520, 521, 522, 523, 41, 40, 245, 235, 236, 237, 238, 239, 240, 59, 60, 61, 62, 681, 682, 683, 684, 685, 686] (by decide +kernel) (by decide +kernel)
set_option maxRecDepth 20000 in
theorem gL_law_X2_reachOf : GoodIn wsL_law (wsV RL 176 RX2 yX2_reachOf wsX2_reachOf) := goodIn_app (goodIn_of _ (by decide +kernel)) ggL_law_X2_reachOf
set_option maxRecDepth 20000 in
theorem ggL_law_L_isInRing : GoodIn wsL_law wsL_isInRing := goodIn_ca (goodIn_r _ [549, 70, 550, 551, 552, 2, 553, 76, 77, 78, 79, 80, 81, 82, 83, 84, 85, 24, 554, 555, 556, 557, 231, 232, 233, 508, 509, 510, 511, 19, 18, 535, 536, 537, 538, 672, 673, 674, 675, 676, 677, 678, 679, 680] (by decide +kernel) (by decide +kernel)) (goodIn_sub (fun _ h => List.mem_append_left _ (List.mem_append_right _ h)) (by decide +kernel))
set_option maxRecDepth 20000 in
theorem gL_law_L_isInRing : GoodIn wsL_law (va_wsS RL 177 yL_isInRing wsL_isInRing) := goodIn_app (goodIn_of _ (by decide +kernel)) ggL_law_L_isInRing
set_option maxRecDepth 20000 in
theorem ggL_law_X2_isInRing : GoodIn wsL_law wsX2_isInRing := goodIn_r _ [561, 57, 144, 145, 146, 5, 147, 58, 148, 149, 150, 562, 563, 564, 565, 520, 521, 522, 523, 41, 40, 543, 544, 545, 546, 415, 416, 417, 418, 681, 682, 683, 684, 685, 686] (by decide +kernel) (by decide +kernel)
set_option maxRecDepth 20000 in
theorem gL_law_X2_isInRing : GoodIn wsL_law (wsV RL 179 RX2 yX2_isInRing wsX2_isInRing) := goodIn_app (goodIn_of _ (by decide +kernel)) ggL_law_X2_isInRing
set_option maxRecDepth 20000 in
theorem ggL_law_X1_unled : GoodIn wsL_law wsX1_unled := goodIn_r _ [569, 24, 508, 509, 510, 2, 511, 19, 18, 231, 232, 233, 234, 235, 236, 237, 238, 239, 240, 672, 673, 674, 675, 676, 677, 678, 679, 680] (by decide +kernel) (by decide +kernel)
set_option maxRecDepth 20000 in
theorem gL_law_X1_unled : GoodIn wsL_law (wsV RL 180 RX1 yX1_unled wsX1_unled) := goodIn_app (goodIn_of _ (by decide +kernel)) ggL_law_X1_unled
set_option maxRecDepth 20000 in
theorem ggL_law_X2_unled : GoodIn wsL_law wsX2_unled := goodIn_r _ [573, 574, 575, 576, 5, 577, 58, 520, 521, 522, 523, 41, 40, 245, 235, 236, 237, 238, 239, 240, 304, 305, 306, 307, 57, 681, 682, 683, 684, 685, 686] (by decide +kernel) (by decide +kernel)
set_option maxRecDepth 20000 in
theorem gL_law_X2_unled : GoodIn wsL_law (wsV RL 183 RX2 yX2_unled wsX2_unled) := goodIn_app (goodIn_of _ (by decide +kernel)) ggL_law_X2_unled
set_option maxRecDepth 20000 in
theorem ggL_law_L_spansWithGap : GoodIn wsL_law wsL_spansWithGap := goodIn_ca (goodIn_ca (goodIn_r _ [580, 70, 71, 581, 582, 583, 2, 584, 90, 91, 22, 76, 77, 78, 79, 80, 81, 82, 83, 84, 85, 24, 96, 97, 98, 99, 14, 23, 585, 137, 138, 16, 139, 32, 30, 31, 104, 105, 106, 107, 108, 109, 110, 111, 128, 129, 130, 131, 672, 673, 674, 675, 676, 677, 678, 679, 680, 687, 688, 689] (by decide +kernel) (by decide +kernel)) (goodIn_sub (fun _ h => List.mem_append_right _ h) (by decide +kernel))) (goodIn_sub (fun _ h => List.mem_append_left _ (List.mem_append_right _ h)) (by decide +kernel))
set_option maxRecDepth 20000 in
theorem gL_law_L_spansWithGap : GoodIn wsL_law (va_wsS RL 184 yL_spansWithGap wsL_spansWithGap) := goodIn_app (goodIn_of _ (by decide +kernel)) ggL_law_L_spansWithGap
set_option maxRecDepth 20000 in
theorem ggL_law_X2_spansWithGap : GoodIn wsL_law wsX2_spansWithGap := goodIn_r _ [589, 57, 144, 145, 146, 5, 147, 58, 148, 149, 150, 59, 60, 61, 62, 171, 172, 173, 174, 37, 159, 160, 161, 162, 39, 681, 682, 683, 684, 685, 686] (by decide +kernel) (by decide +kernel)
set_option maxRecDepth 20000 in
theorem gL_law_X2_spansWithGap : GoodIn wsL_law (wsV RL 186 RX2 yX2_spansWithGap wsX2_spansWithGap) := goodIn_app (goodIn_of _ (by decide +kernel)) ggL_law_X2_spansWithGap
set_option maxRecDepth 20000 in
theorem ggL_law_L_commonPages : GoodIn wsL_law wsL_commonPages := goodIn_ca (goodIn_r _ [592, 70, 593, 594, 595, 2, 596, 76, 77, 78, 79, 80, 81, 82, 83, 84, 85, 24, 96, 97, 98, 99, 14, 23, 597, 598, 599, 16, 600, 32, 30, 108, 109, 110, 111, 31, 186, 187, 188, 672, 673, 674, 675, 676, 677, 678, 679, 680, 687, 688, 689] (by decide +kernel) (by decide +kernel)) (goodIn_sub (fun _ h => List.mem_append_left _ (List.mem_append_right _ h)) (by decide +kernel))
set_option maxRecDepth 20000 in
theorem gL_law_L_commonPages : GoodIn wsL_law (va_wsS RL 187 yL_commonPages wsL_commonPages) := goodIn_app (goodIn_of _ (by decide +kernel)) ggL_law_L_commonPages
set_option maxRecDepth 20000 in
theorem ggL_law_X2_commonPages : GoodIn wsL_law wsX2_commonPages := goodIn_r _ [604, 57, 144, 145, 146, 5, 147, 58, 148, 149, 150, 605, 606, 607, 608, 37, 159, 160, 161, 162, 39, 59, 60, 61, 62, 681, 682, 683, 684, 685, 686] (by decide +kernel) (by decide +kernel)
set_option maxRecDepth 20000 in
theorem gL_law_X2_commonPages : GoodIn wsL_law (wsV RL 189 RX2 yX2_commonPages wsX2_commonPages) := goodIn_app (goodIn_of _ (by decide +kernel)) ggL_law_X2_commonPages
set_option maxRecDepth 20000 in
theorem ggL_law_L_nearest : GoodIn wsL_law wsL_nearest := goodIn_ca (goodIn_r _ [611, 70, 612, 613, 614, 2, 615, 76, 77, 78, 79, 80, 81, 82, 83, 84, 85, 24, 616, 617, 618, 619, 96, 97, 98, 99, 14, 23, 597, 598, 599, 16, 600, 32, 30, 108, 109, 110, 111, 31, 186, 187, 188, 672, 673, 674, 675, 676, 677, 678, 679, 680, 687, 688, 689] (by decide +kernel) (by decide +kernel)) (goodIn_sub (fun _ h => List.mem_append_left _ (List.mem_append_right _ h)) (by decide +kernel))
set_option maxRecDepth 20000 in
theorem gL_law_L_nearest : GoodIn wsL_law (va_wsS RL 190 yL_nearest wsL_nearest) := goodIn_app (goodIn_of _ (by decide +kernel)) ggL_law_L_nearest
set_option maxRecDepth 20000 in
theorem ggL_law_X2_nearest : GoodIn wsL_law wsX2_nearest := goodIn_r _ [623, 57, 144, 145, 146, 5, 147, 58, 148, 149, 150, 624, 625, 626, 627, 605, 606, 607, 608, 37, 159, 160, 161, 162, 39, 59, 60, 61, 62, 681, 682, 683, 684, 685, 686] (by decide +kernel) (by decide +kernel)
set_option maxRecDepth 20000 in
theorem gL_law_X2_nearest : GoodIn wsL_law (wsV RL 192 RX2 yX2_nearest wsX2_nearest) := goodIn_app (goodIn_of _ (by decide +kernel)) ggL_law_X2_nearest
set_option maxRecDepth 20000 in
theorem ggL_law_L_spansTogether : GoodIn wsL_law wsL_spansTogether := goodIn_ca (goodIn_r _ [630, 70, 631, 632, 633, 2, 634, 22, 76, 77, 78, 79, 80, 81, 82, 83, 84, 85, 24, 96, 97, 98, 99, 14, 23, 112, 113, 114, 16, 115, 32, 30, 116, 117, 118, 119, 120, 121, 122, 123, 31, 104, 105, 106, 107, 108, 109, 110, 111, 128, 129, 130, 131, 672, 673, 674, 675, 676, 677, 678, 679, 680, 687, 688, 689] (by decide +kernel) (by decide +kernel)) (goodIn_sub (fun _ h => List.mem_append_left _ (List.mem_append_right _ h)) (by decide +kernel))
set_option maxRecDepth 20000 in
theorem gL_law_L_spansTogether : GoodIn wsL_law (va_wsS RL 193 yL_spansTogether wsL_spansTogether) := goodIn_app (goodIn_of _ (by decide +kernel)) ggL_law_L_spansTogether
set_option maxRecDepth 20000 in
theorem ggL_law_X2_spansTogether : GoodIn wsL_law wsX2_spansTogether := goodIn_r _ [638, 57, 144, 145, 146, 5, 147, 58, 148, 149, 150, 171, 172, 173, 174, 37, 159, 160, 161, 162, 39, 59, 60, 61, 62, 681, 682, 683, 684, 685, 686] (by decide +kernel) (by decide +kernel)
set_option maxRecDepth 20000 in
theorem gL_law_X2_spansTogether : GoodIn wsL_law (wsV RL 195 RX2 yX2_spansTogether wsX2_spansTogether) := goodIn_app (goodIn_of _ (by decide +kernel)) ggL_law_X2_spansTogether
set_option maxRecDepth 20000 in
theorem ggL_law_X1_meanPages : GoodIn wsL_law wsX1_meanPages := goodIn_r _ [642, 24, 96, 97, 98, 2, 99, 14, 23, 82, 83, 84, 85, 193, 194, 195, 16, 196, 32, 31, 30, 672, 673, 674, 675, 676, 677, 678, 679, 680, 687, 688, 689] (by decide +kernel) (by decide +kernel)
set_option maxRecDepth 20000 in
theorem gL_law_X1_meanPages : GoodIn wsL_law (wsV RL 196 RX1 yX1_meanPages wsX1_meanPages) := goodIn_app (goodIn_of _ (by decide +kernel)) ggL_law_X1_meanPages
set_option maxRecDepth 20000 in
theorem ggL_law_X2_meanPages : GoodIn wsL_law wsX2_meanPages := goodIn_r _ [646, 57, 58, 201, 202, 203, 5, 204, 37, 159, 160, 161, 162, 39, 681, 682, 683, 684, 685, 686] (by decide +kernel) (by decide +kernel)
set_option maxRecDepth 20000 in
theorem gL_law_X2_meanPages : GoodIn wsL_law (wsV RL 200 RX2 yX2_meanPages wsX2_meanPages) := goodIn_app (goodIn_of _ (by decide +kernel)) ggL_law_X2_meanPages
set_option maxRecDepth 20000 in
theorem ggL_law_X1_digest : GoodIn wsL_law wsX1_digest := goodIn_r _ [650, 651, 24, 652, 297, 298, 2, 299, 25, 653, 654, 655, 656, 657, 309, 310, 311, 658, 431, 432, 433, 20, 434, 435, 436, 437, 96, 97, 98, 99, 14, 23, 82, 83, 84, 85, 438, 439, 440, 441, 128, 129, 130, 16, 131, 32, 338, 117, 118, 119, 30, 442, 443, 444, 445, 358, 121, 122, 123, 31, 659, 455, 456, 457, 660, 486, 487, 488, 92, 93, 94, 95, 18, 473, 474, 475, 476, 489, 490, 491, 492, 661, 567, 568, 569, 508, 509, 510, 511, 19, 231, 232, 233, 234, 235, 236, 237, 238, 239, 240, 662, 663, 664, 665, 193, 194, 195, 196, 396, 397, 398, 399, 531, 532, 533, 534, 535, 536, 537, 538, 554, 555, 556, 557, 616, 617, 618, 619, 597, 598, 599, 600, 108, 109, 110, 111, 186, 187, 188, 672, 673, 674, 675, 676, 677, 678, 679, 680, 687, 688, 689] (by decide +kernel) (by decide +kernel)
set_option maxRecDepth 20000 in
theorem gL_law_X1_digest : GoodIn wsL_law (wsV RL 201 RX1 yX1_digest wsX1_digest) := goodIn_app (goodIn_of _ (by decide +kernel)) ggL_law_X1_digest
set_option maxRecDepth 20000 in
theorem ggL_law_X2_digest : GoodIn wsL_law wsX2_digest := goodIn_r _ [669, 57, 17, 37, 58, 670, 671, 40, 41, 450, 451, 452, 5, 453, 292, 293, 294, 295, 159, 160, 161, 162, 39, 462, 463, 464, 465, 497, 498, 499, 500, 481, 482, 483, 484, 201, 202, 203, 204, 574, 575, 576, 577, 520, 521, 522, 523, 245, 235, 236, 237, 238, 239, 240, 171, 172, 173, 174, 543, 544, 545, 546, 562, 563, 564, 565, 624, 625, 626, 627, 605, 606, 607, 608, 347, 348, 349, 350, 363, 364, 365, 366, 681, 682, 683, 684, 685, 686] (by decide +kernel) (by decide +kernel)
set_option maxRecDepth 20000 in
theorem gL_law_X2_digest : GoodIn wsL_law (wsV RL 205 RX2 yX2_digest wsX2_digest) := goodIn_app (goodIn_of _ (by decide +kernel)) ggL_law_X2_digest
theorem dL_law_0 : decode cL_law 0 = .ok (.new 8, 3) := by decide +kernel
theorem dL_law_3 : decode cL_law 3 = .ok (.dup, 1) := by decide +kernel
theorem dL_law_4 : decode cL_law 4 = .ok (.invokespecial 90, 3) := by decide +kernel
theorem dL_law_7 : decode cL_law 7 = .ok (.astore_n 1, 1) := by decide +kernel
theorem dL_law_8 : decode cL_law 8 = .ok (.new 91, 3) := by decide +kernel
theorem dL_law_11 : decode cL_law 11 = .ok (.dup, 1) := by decide +kernel
theorem dL_law_12 : decode cL_law 12 = .ok (.invokespecial 93, 3) := by decide +kernel
theorem dL_law_15 : decode cL_law 15 = .ok (.astore_n 2, 1) := by decide +kernel
theorem dL_law_16 : decode cL_law 16 = .ok (.iconst 1, 1) := by decide +kernel
theorem dL_law_17 : decode cL_law 17 = .ok (.newarray .long, 2) := by decide +kernel
theorem dL_law_19 : decode cL_law 19 = .ok (.astore_n 3, 1) := by decide +kernel
theorem dL_law_20 : decode cL_law 20 = .ok (.iconst 0, 1) := by decide +kernel
theorem dL_law_21 : decode cL_law 21 = .ok (.istore 4, 2) := by decide +kernel
theorem dL_law_23 : decode cL_law 23 = .ok (.iload 4, 2) := by decide +kernel
theorem dL_law_25 : decode cL_law 25 = .ok (.aload_n 0, 1) := by decide +kernel
theorem dL_law_26 : decode cL_law 26 = .ok (.arraylength, 1) := by decide +kernel
theorem dL_law_27 : decode cL_law 27 = .ok (.iconst 4, 1) := by decide +kernel
theorem dL_law_28 : decode cL_law 28 = .ok (.isub, 1) := by decide +kernel
theorem dL_law_29 : decode cL_law 29 = .ok (.if_icmp .gt 1744, 3) := by decide +kernel
theorem dL_law_32 : decode cL_law 32 = .ok (.aload_n 0, 1) := by decide +kernel
theorem dL_law_33 : decode cL_law 33 = .ok (.iload 4, 2) := by decide +kernel
theorem dL_law_35 : decode cL_law 35 = .ok (.iaload, 1) := by decide +kernel
theorem dL_law_36 : decode cL_law 36 = .ok (.bipush 31, 2) := by decide +kernel
theorem dL_law_38 : decode cL_law 38 = .ok (.iand, 1) := by decide +kernel
theorem dL_law_39 : decode cL_law 39 = .ok (.tableswitch 1728 0 30 #[137, 181, 261, 341, 409, 477, 545, 601, 614, 627, 683, 751, 819, 875, 931, 987, 1062, 1118, 1131, 1144, 1200, 1213, 1281, 1337, 1400, 1413, 1481, 1549, 1605, 1673, 1714], 137) := by decide +kernel
theorem dL_law_176 : decode cL_law 176 = .ok (.aload_n 1, 1) := by decide +kernel
theorem dL_law_177 : decode cL_law 177 = .ok (.aload_n 3, 1) := by decide +kernel
theorem dL_law_178 : decode cL_law 178 = .ok (.invokestatic 94, 3) := by decide +kernel
theorem dL_law_181 : decode cL_law 181 = .ok (.istore 5, 2) := by decide +kernel
theorem dL_law_183 : decode cL_law 183 = .ok (.aload_n 2, 1) := by decide +kernel
theorem dL_law_184 : decode cL_law 184 = .ok (.invokevirtual 99, 3) := by decide +kernel
theorem dL_law_187 : decode cL_law 187 = .ok (.istore 6, 2) := by decide +kernel
theorem dL_law_189 : decode cL_law 189 = .ok (.aload_n 2, 1) := by decide +kernel
theorem dL_law_190 : decode cL_law 190 = .ok (.invokevirtual 100, 3) := by decide +kernel
theorem dL_law_193 : decode cL_law 193 = .ok (.iload 5, 2) := by decide +kernel
theorem dL_law_195 : decode cL_law 195 = .ok (.if_icmp .eq 5, 3) := by decide +kernel
theorem dL_law_198 : decode cL_law 198 = .ok (.iconst 0, 1) := by decide +kernel
theorem dL_law_199 : decode cL_law 199 = .ok (.ireturn, 1) := by decide +kernel
theorem dL_law_200 : decode cL_law 200 = .ok (.iload 5, 2) := by decide +kernel
theorem dL_law_202 : decode cL_law 202 = .ok (.ifCond .ne 15, 3) := by decide +kernel
theorem dL_law_205 : decode cL_law 205 = .ok (.aload_n 3, 1) := by decide +kernel
theorem dL_law_206 : decode cL_law 206 = .ok (.iconst 0, 1) := by decide +kernel
theorem dL_law_207 : decode cL_law 207 = .ok (.laload, 1) := by decide +kernel
theorem dL_law_208 : decode cL_law 208 = .ok (.iload 6, 2) := by decide +kernel
theorem dL_law_210 : decode cL_law 210 = .ok (.i2l, 1) := by decide +kernel
theorem dL_law_211 : decode cL_law 211 = .ok (.lcmp, 1) := by decide +kernel
theorem dL_law_212 : decode cL_law 212 = .ok (.ifCond .eq 5, 3) := by decide +kernel
theorem dL_law_215 : decode cL_law 215 = .ok (.iconst 0, 1) := by decide +kernel
theorem dL_law_216 : decode cL_law 216 = .ok (.ireturn, 1) := by decide +kernel
theorem dL_law_217 : decode cL_law 217 = .ok (.goto 1550, 3) := by decide +kernel
theorem dL_law_220 : decode cL_law 220 = .ok (.aload_n 1, 1) := by decide +kernel
theorem dL_law_221 : decode cL_law 221 = .ok (.aload_n 0, 1) := by decide +kernel
theorem dL_law_222 : decode cL_law 222 = .ok (.iload 4, 2) := by decide +kernel
theorem dL_law_224 : decode cL_law 224 = .ok (.iconst 1, 1) := by decide +kernel
theorem dL_law_225 : decode cL_law 225 = .ok (.iadd, 1) := by decide +kernel
theorem dL_law_226 : decode cL_law 226 = .ok (.iaload, 1) := by decide +kernel
theorem dL_law_227 : decode cL_law 227 = .ok (.aload_n 0, 1) := by decide +kernel
theorem dL_law_228 : decode cL_law 228 = .ok (.iload 4, 2) := by decide +kernel
theorem dL_law_230 : decode cL_law 230 = .ok (.iconst 2, 1) := by decide +kernel
theorem dL_law_231 : decode cL_law 231 = .ok (.iadd, 1) := by decide +kernel
theorem dL_law_232 : decode cL_law 232 = .ok (.iaload, 1) := by decide +kernel
theorem dL_law_233 : decode cL_law 233 = .ok (.aload_n 0, 1) := by decide +kernel
theorem dL_law_234 : decode cL_law 234 = .ok (.iload 4, 2) := by decide +kernel
theorem dL_law_236 : decode cL_law 236 = .ok (.iconst 3, 1) := by decide +kernel
theorem dL_law_237 : decode cL_law 237 = .ok (.iadd, 1) := by decide +kernel
theorem dL_law_238 : decode cL_law 238 = .ok (.iaload, 1) := by decide +kernel
theorem dL_law_239 : decode cL_law 239 = .ok (.aload_n 3, 1) := by decide +kernel
theorem dL_law_240 : decode cL_law 240 = .ok (.invokestatic 103, 3) := by decide +kernel
theorem dL_law_243 : decode cL_law 243 = .ok (.istore 5, 2) := by decide +kernel
theorem dL_law_245 : decode cL_law 245 = .ok (.aload_n 2, 1) := by decide +kernel
theorem dL_law_246 : decode cL_law 246 = .ok (.aload_n 0, 1) := by decide +kernel
theorem dL_law_247 : decode cL_law 247 = .ok (.iload 4, 2) := by decide +kernel
theorem dL_law_249 : decode cL_law 249 = .ok (.iconst 1, 1) := by decide +kernel
theorem dL_law_250 : decode cL_law 250 = .ok (.iadd, 1) := by decide +kernel
theorem dL_law_251 : decode cL_law 251 = .ok (.iaload, 1) := by decide +kernel
theorem dL_law_252 : decode cL_law 252 = .ok (.aload_n 0, 1) := by decide +kernel
theorem dL_law_253 : decode cL_law 253 = .ok (.iload 4, 2) := by decide +kernel
theorem dL_law_255 : decode cL_law 255 = .ok (.iconst 2, 1) := by decide +kernel
theorem dL_law_256 : decode cL_law 256 = .ok (.iadd, 1) := by decide +kernel
theorem dL_law_257 : decode cL_law 257 = .ok (.iaload, 1) := by decide +kernel
theorem dL_law_258 : decode cL_law 258 = .ok (.aload_n 0, 1) := by decide +kernel
theorem dL_law_259 : decode cL_law 259 = .ok (.iload 4, 2) := by decide +kernel
theorem dL_law_261 : decode cL_law 261 = .ok (.iconst 3, 1) := by decide +kernel
theorem dL_law_262 : decode cL_law 262 = .ok (.iadd, 1) := by decide +kernel
theorem dL_law_263 : decode cL_law 263 = .ok (.iaload, 1) := by decide +kernel
theorem dL_law_264 : decode cL_law 264 = .ok (.invokevirtual 106, 3) := by decide +kernel
theorem dL_law_267 : decode cL_law 267 = .ok (.istore 6, 2) := by decide +kernel
theorem dL_law_269 : decode cL_law 269 = .ok (.aload_n 2, 1) := by decide +kernel
theorem dL_law_270 : decode cL_law 270 = .ok (.invokevirtual 100, 3) := by decide +kernel
theorem dL_law_273 : decode cL_law 273 = .ok (.iload 5, 2) := by decide +kernel
theorem dL_law_275 : decode cL_law 275 = .ok (.if_icmp .eq 5, 3) := by decide +kernel
theorem dL_law_278 : decode cL_law 278 = .ok (.iconst 0, 1) := by decide +kernel
theorem dL_law_279 : decode cL_law 279 = .ok (.ireturn, 1) := by decide +kernel
theorem dL_law_280 : decode cL_law 280 = .ok (.iload 5, 2) := by decide +kernel
theorem dL_law_282 : decode cL_law 282 = .ok (.ifCond .ne 15, 3) := by decide +kernel
theorem dL_law_285 : decode cL_law 285 = .ok (.aload_n 3, 1) := by decide +kernel
theorem dL_law_286 : decode cL_law 286 = .ok (.iconst 0, 1) := by decide +kernel
theorem dL_law_287 : decode cL_law 287 = .ok (.laload, 1) := by decide +kernel
theorem dL_law_288 : decode cL_law 288 = .ok (.iload 6, 2) := by decide +kernel
theorem dL_law_290 : decode cL_law 290 = .ok (.i2l, 1) := by decide +kernel
theorem dL_law_291 : decode cL_law 291 = .ok (.lcmp, 1) := by decide +kernel
theorem dL_law_292 : decode cL_law 292 = .ok (.ifCond .eq 5, 3) := by decide +kernel
theorem dL_law_295 : decode cL_law 295 = .ok (.iconst 0, 1) := by decide +kernel
theorem dL_law_296 : decode cL_law 296 = .ok (.ireturn, 1) := by decide +kernel
theorem dL_law_297 : decode cL_law 297 = .ok (.goto 1470, 3) := by decide +kernel
theorem dL_law_300 : decode cL_law 300 = .ok (.aload_n 1, 1) := by decide +kernel
theorem dL_law_301 : decode cL_law 301 = .ok (.aload_n 0, 1) := by decide +kernel
theorem dL_law_302 : decode cL_law 302 = .ok (.iload 4, 2) := by decide +kernel
theorem dL_law_304 : decode cL_law 304 = .ok (.iconst 1, 1) := by decide +kernel
theorem dL_law_305 : decode cL_law 305 = .ok (.iadd, 1) := by decide +kernel
theorem dL_law_306 : decode cL_law 306 = .ok (.iaload, 1) := by decide +kernel
theorem dL_law_307 : decode cL_law 307 = .ok (.aload_n 0, 1) := by decide +kernel
theorem dL_law_308 : decode cL_law 308 = .ok (.iload 4, 2) := by decide +kernel
theorem dL_law_310 : decode cL_law 310 = .ok (.iconst 2, 1) := by decide +kernel
theorem dL_law_311 : decode cL_law 311 = .ok (.iadd, 1) := by decide +kernel
theorem dL_law_312 : decode cL_law 312 = .ok (.iaload, 1) := by decide +kernel
theorem dL_law_313 : decode cL_law 313 = .ok (.aload_n 0, 1) := by decide +kernel
theorem dL_law_314 : decode cL_law 314 = .ok (.iload 4, 2) := by decide +kernel
theorem dL_law_316 : decode cL_law 316 = .ok (.iconst 3, 1) := by decide +kernel
theorem dL_law_317 : decode cL_law 317 = .ok (.iadd, 1) := by decide +kernel
theorem dL_law_318 : decode cL_law 318 = .ok (.iaload, 1) := by decide +kernel
theorem dL_law_319 : decode cL_law 319 = .ok (.aload_n 3, 1) := by decide +kernel
theorem dL_law_320 : decode cL_law 320 = .ok (.invokestatic 107, 3) := by decide +kernel
theorem dL_law_323 : decode cL_law 323 = .ok (.istore 5, 2) := by decide +kernel
theorem dL_law_325 : decode cL_law 325 = .ok (.aload_n 2, 1) := by decide +kernel
theorem dL_law_326 : decode cL_law 326 = .ok (.aload_n 0, 1) := by decide +kernel
theorem dL_law_327 : decode cL_law 327 = .ok (.iload 4, 2) := by decide +kernel
theorem dL_law_329 : decode cL_law 329 = .ok (.iconst 1, 1) := by decide +kernel
theorem dL_law_330 : decode cL_law 330 = .ok (.iadd, 1) := by decide +kernel
theorem dL_law_331 : decode cL_law 331 = .ok (.iaload, 1) := by decide +kernel
theorem dL_law_332 : decode cL_law 332 = .ok (.aload_n 0, 1) := by decide +kernel
theorem dL_law_333 : decode cL_law 333 = .ok (.iload 4, 2) := by decide +kernel
theorem dL_law_335 : decode cL_law 335 = .ok (.iconst 2, 1) := by decide +kernel
theorem dL_law_336 : decode cL_law 336 = .ok (.iadd, 1) := by decide +kernel
theorem dL_law_337 : decode cL_law 337 = .ok (.iaload, 1) := by decide +kernel
theorem dL_law_338 : decode cL_law 338 = .ok (.aload_n 0, 1) := by decide +kernel
theorem dL_law_339 : decode cL_law 339 = .ok (.iload 4, 2) := by decide +kernel
theorem dL_law_341 : decode cL_law 341 = .ok (.iconst 3, 1) := by decide +kernel
theorem dL_law_342 : decode cL_law 342 = .ok (.iadd, 1) := by decide +kernel
theorem dL_law_343 : decode cL_law 343 = .ok (.iaload, 1) := by decide +kernel
theorem dL_law_344 : decode cL_law 344 = .ok (.invokevirtual 109, 3) := by decide +kernel
theorem dL_law_347 : decode cL_law 347 = .ok (.istore 6, 2) := by decide +kernel
theorem dL_law_349 : decode cL_law 349 = .ok (.aload_n 2, 1) := by decide +kernel
theorem dL_law_350 : decode cL_law 350 = .ok (.invokevirtual 100, 3) := by decide +kernel
theorem dL_law_353 : decode cL_law 353 = .ok (.iload 5, 2) := by decide +kernel
theorem dL_law_355 : decode cL_law 355 = .ok (.if_icmp .eq 5, 3) := by decide +kernel
theorem dL_law_358 : decode cL_law 358 = .ok (.iconst 0, 1) := by decide +kernel
theorem dL_law_359 : decode cL_law 359 = .ok (.ireturn, 1) := by decide +kernel
theorem dL_law_360 : decode cL_law 360 = .ok (.iload 5, 2) := by decide +kernel
theorem dL_law_362 : decode cL_law 362 = .ok (.ifCond .ne 15, 3) := by decide +kernel
theorem dL_law_365 : decode cL_law 365 = .ok (.aload_n 3, 1) := by decide +kernel
theorem dL_law_366 : decode cL_law 366 = .ok (.iconst 0, 1) := by decide +kernel
theorem dL_law_367 : decode cL_law 367 = .ok (.laload, 1) := by decide +kernel
theorem dL_law_368 : decode cL_law 368 = .ok (.iload 6, 2) := by decide +kernel
theorem dL_law_370 : decode cL_law 370 = .ok (.i2l, 1) := by decide +kernel
theorem dL_law_371 : decode cL_law 371 = .ok (.lcmp, 1) := by decide +kernel
theorem dL_law_372 : decode cL_law 372 = .ok (.ifCond .eq 5, 3) := by decide +kernel
theorem dL_law_375 : decode cL_law 375 = .ok (.iconst 0, 1) := by decide +kernel
theorem dL_law_376 : decode cL_law 376 = .ok (.ireturn, 1) := by decide +kernel
theorem dL_law_377 : decode cL_law 377 = .ok (.goto 1390, 3) := by decide +kernel
theorem dL_law_380 : decode cL_law 380 = .ok (.aload_n 1, 1) := by decide +kernel
theorem dL_law_381 : decode cL_law 381 = .ok (.aload_n 0, 1) := by decide +kernel
theorem dL_law_382 : decode cL_law 382 = .ok (.iload 4, 2) := by decide +kernel
theorem dL_law_384 : decode cL_law 384 = .ok (.iconst 1, 1) := by decide +kernel
theorem dL_law_385 : decode cL_law 385 = .ok (.iadd, 1) := by decide +kernel
theorem dL_law_386 : decode cL_law 386 = .ok (.iaload, 1) := by decide +kernel
theorem dL_law_387 : decode cL_law 387 = .ok (.aload_n 0, 1) := by decide +kernel
theorem dL_law_388 : decode cL_law 388 = .ok (.iload 4, 2) := by decide +kernel
theorem dL_law_390 : decode cL_law 390 = .ok (.iconst 2, 1) := by decide +kernel
theorem dL_law_391 : decode cL_law 391 = .ok (.iadd, 1) := by decide +kernel
theorem dL_law_392 : decode cL_law 392 = .ok (.iaload, 1) := by decide +kernel
theorem dL_law_393 : decode cL_law 393 = .ok (.aload_n 3, 1) := by decide +kernel
theorem dL_law_394 : decode cL_law 394 = .ok (.invokestatic 110, 3) := by decide +kernel
theorem dL_law_397 : decode cL_law 397 = .ok (.istore 5, 2) := by decide +kernel
theorem dL_law_399 : decode cL_law 399 = .ok (.aload_n 2, 1) := by decide +kernel
theorem dL_law_400 : decode cL_law 400 = .ok (.aload_n 0, 1) := by decide +kernel
theorem dL_law_401 : decode cL_law 401 = .ok (.iload 4, 2) := by decide +kernel
theorem dL_law_403 : decode cL_law 403 = .ok (.iconst 1, 1) := by decide +kernel
theorem dL_law_404 : decode cL_law 404 = .ok (.iadd, 1) := by decide +kernel
theorem dL_law_405 : decode cL_law 405 = .ok (.iaload, 1) := by decide +kernel
theorem dL_law_406 : decode cL_law 406 = .ok (.aload_n 0, 1) := by decide +kernel
theorem dL_law_407 : decode cL_law 407 = .ok (.iload 4, 2) := by decide +kernel
theorem dL_law_409 : decode cL_law 409 = .ok (.iconst 2, 1) := by decide +kernel
theorem dL_law_410 : decode cL_law 410 = .ok (.iadd, 1) := by decide +kernel
theorem dL_law_411 : decode cL_law 411 = .ok (.iaload, 1) := by decide +kernel
theorem dL_law_412 : decode cL_law 412 = .ok (.invokevirtual 113, 3) := by decide +kernel
theorem dL_law_415 : decode cL_law 415 = .ok (.istore 6, 2) := by decide +kernel
theorem dL_law_417 : decode cL_law 417 = .ok (.aload_n 2, 1) := by decide +kernel
theorem dL_law_418 : decode cL_law 418 = .ok (.invokevirtual 100, 3) := by decide +kernel
theorem dL_law_421 : decode cL_law 421 = .ok (.iload 5, 2) := by decide +kernel
theorem dL_law_423 : decode cL_law 423 = .ok (.if_icmp .eq 5, 3) := by decide +kernel
theorem dL_law_426 : decode cL_law 426 = .ok (.iconst 0, 1) := by decide +kernel
theorem dL_law_427 : decode cL_law 427 = .ok (.ireturn, 1) := by decide +kernel
theorem dL_law_428 : decode cL_law 428 = .ok (.iload 5, 2) := by decide +kernel
theorem dL_law_430 : decode cL_law 430 = .ok (.ifCond .ne 15, 3) := by decide +kernel
theorem dL_law_433 : decode cL_law 433 = .ok (.aload_n 3, 1) := by decide +kernel
theorem dL_law_434 : decode cL_law 434 = .ok (.iconst 0, 1) := by decide +kernel
theorem dL_law_435 : decode cL_law 435 = .ok (.laload, 1) := by decide +kernel
theorem dL_law_436 : decode cL_law 436 = .ok (.iload 6, 2) := by decide +kernel
theorem dL_law_438 : decode cL_law 438 = .ok (.i2l, 1) := by decide +kernel
theorem dL_law_439 : decode cL_law 439 = .ok (.lcmp, 1) := by decide +kernel
theorem dL_law_440 : decode cL_law 440 = .ok (.ifCond .eq 5, 3) := by decide +kernel
theorem dL_law_443 : decode cL_law 443 = .ok (.iconst 0, 1) := by decide +kernel
theorem dL_law_444 : decode cL_law 444 = .ok (.ireturn, 1) := by decide +kernel
theorem dL_law_445 : decode cL_law 445 = .ok (.goto 1322, 3) := by decide +kernel
theorem dL_law_448 : decode cL_law 448 = .ok (.aload_n 1, 1) := by decide +kernel
theorem dL_law_449 : decode cL_law 449 = .ok (.aload_n 0, 1) := by decide +kernel
theorem dL_law_450 : decode cL_law 450 = .ok (.iload 4, 2) := by decide +kernel
theorem dL_law_452 : decode cL_law 452 = .ok (.iconst 1, 1) := by decide +kernel
theorem dL_law_453 : decode cL_law 453 = .ok (.iadd, 1) := by decide +kernel
theorem dL_law_454 : decode cL_law 454 = .ok (.iaload, 1) := by decide +kernel
theorem dL_law_455 : decode cL_law 455 = .ok (.aload_n 0, 1) := by decide +kernel
theorem dL_law_456 : decode cL_law 456 = .ok (.iload 4, 2) := by decide +kernel
theorem dL_law_458 : decode cL_law 458 = .ok (.iconst 2, 1) := by decide +kernel
theorem dL_law_459 : decode cL_law 459 = .ok (.iadd, 1) := by decide +kernel
theorem dL_law_460 : decode cL_law 460 = .ok (.iaload, 1) := by decide +kernel
theorem dL_law_461 : decode cL_law 461 = .ok (.aload_n 3, 1) := by decide +kernel
theorem dL_law_462 : decode cL_law 462 = .ok (.invokestatic 114, 3) := by decide +kernel
theorem dL_law_465 : decode cL_law 465 = .ok (.istore 5, 2) := by decide +kernel
theorem dL_law_467 : decode cL_law 467 = .ok (.aload_n 2, 1) := by decide +kernel
theorem dL_law_468 : decode cL_law 468 = .ok (.aload_n 0, 1) := by decide +kernel
theorem dL_law_469 : decode cL_law 469 = .ok (.iload 4, 2) := by decide +kernel
theorem dL_law_471 : decode cL_law 471 = .ok (.iconst 1, 1) := by decide +kernel
theorem dL_law_472 : decode cL_law 472 = .ok (.iadd, 1) := by decide +kernel
theorem dL_law_473 : decode cL_law 473 = .ok (.iaload, 1) := by decide +kernel
theorem dL_law_474 : decode cL_law 474 = .ok (.aload_n 0, 1) := by decide +kernel
theorem dL_law_475 : decode cL_law 475 = .ok (.iload 4, 2) := by decide +kernel
theorem dL_law_477 : decode cL_law 477 = .ok (.iconst 2, 1) := by decide +kernel
theorem dL_law_478 : decode cL_law 478 = .ok (.iadd, 1) := by decide +kernel
theorem dL_law_479 : decode cL_law 479 = .ok (.iaload, 1) := by decide +kernel
theorem dL_law_480 : decode cL_law 480 = .ok (.invokevirtual 116, 3) := by decide +kernel
theorem dL_law_483 : decode cL_law 483 = .ok (.istore 6, 2) := by decide +kernel
theorem dL_law_485 : decode cL_law 485 = .ok (.aload_n 2, 1) := by decide +kernel
theorem dL_law_486 : decode cL_law 486 = .ok (.invokevirtual 100, 3) := by decide +kernel
theorem dL_law_489 : decode cL_law 489 = .ok (.iload 5, 2) := by decide +kernel
theorem dL_law_491 : decode cL_law 491 = .ok (.if_icmp .eq 5, 3) := by decide +kernel
theorem dL_law_494 : decode cL_law 494 = .ok (.iconst 0, 1) := by decide +kernel
theorem dL_law_495 : decode cL_law 495 = .ok (.ireturn, 1) := by decide +kernel
theorem dL_law_496 : decode cL_law 496 = .ok (.iload 5, 2) := by decide +kernel
theorem dL_law_498 : decode cL_law 498 = .ok (.ifCond .ne 15, 3) := by decide +kernel
theorem dL_law_501 : decode cL_law 501 = .ok (.aload_n 3, 1) := by decide +kernel
theorem dL_law_502 : decode cL_law 502 = .ok (.iconst 0, 1) := by decide +kernel
theorem dL_law_503 : decode cL_law 503 = .ok (.laload, 1) := by decide +kernel
theorem dL_law_504 : decode cL_law 504 = .ok (.iload 6, 2) := by decide +kernel
theorem dL_law_506 : decode cL_law 506 = .ok (.i2l, 1) := by decide +kernel
theorem dL_law_507 : decode cL_law 507 = .ok (.lcmp, 1) := by decide +kernel
theorem dL_law_508 : decode cL_law 508 = .ok (.ifCond .eq 5, 3) := by decide +kernel
theorem dL_law_511 : decode cL_law 511 = .ok (.iconst 0, 1) := by decide +kernel
theorem dL_law_512 : decode cL_law 512 = .ok (.ireturn, 1) := by decide +kernel
theorem dL_law_513 : decode cL_law 513 = .ok (.goto 1254, 3) := by decide +kernel
theorem dL_law_516 : decode cL_law 516 = .ok (.aload_n 1, 1) := by decide +kernel
theorem dL_law_517 : decode cL_law 517 = .ok (.aload_n 0, 1) := by decide +kernel
theorem dL_law_518 : decode cL_law 518 = .ok (.iload 4, 2) := by decide +kernel
theorem dL_law_520 : decode cL_law 520 = .ok (.iconst 1, 1) := by decide +kernel
theorem dL_law_521 : decode cL_law 521 = .ok (.iadd, 1) := by decide +kernel
theorem dL_law_522 : decode cL_law 522 = .ok (.iaload, 1) := by decide +kernel
theorem dL_law_523 : decode cL_law 523 = .ok (.aload_n 0, 1) := by decide +kernel
theorem dL_law_524 : decode cL_law 524 = .ok (.iload 4, 2) := by decide +kernel
theorem dL_law_526 : decode cL_law 526 = .ok (.iconst 2, 1) := by decide +kernel
theorem dL_law_527 : decode cL_law 527 = .ok (.iadd, 1) := by decide +kernel
theorem dL_law_528 : decode cL_law 528 = .ok (.iaload, 1) := by decide +kernel
theorem dL_law_529 : decode cL_law 529 = .ok (.aload_n 3, 1) := by decide +kernel
theorem dL_law_530 : decode cL_law 530 = .ok (.invokestatic 117, 3) := by decide +kernel
theorem dL_law_533 : decode cL_law 533 = .ok (.istore 5, 2) := by decide +kernel
theorem dL_law_535 : decode cL_law 535 = .ok (.aload_n 2, 1) := by decide +kernel
theorem dL_law_536 : decode cL_law 536 = .ok (.aload_n 0, 1) := by decide +kernel
theorem dL_law_537 : decode cL_law 537 = .ok (.iload 4, 2) := by decide +kernel
theorem dL_law_539 : decode cL_law 539 = .ok (.iconst 1, 1) := by decide +kernel
theorem dL_law_540 : decode cL_law 540 = .ok (.iadd, 1) := by decide +kernel
theorem dL_law_541 : decode cL_law 541 = .ok (.iaload, 1) := by decide +kernel
theorem dL_law_542 : decode cL_law 542 = .ok (.aload_n 0, 1) := by decide +kernel
theorem dL_law_543 : decode cL_law 543 = .ok (.iload 4, 2) := by decide +kernel
theorem dL_law_545 : decode cL_law 545 = .ok (.iconst 2, 1) := by decide +kernel
theorem dL_law_546 : decode cL_law 546 = .ok (.iadd, 1) := by decide +kernel
theorem dL_law_547 : decode cL_law 547 = .ok (.iaload, 1) := by decide +kernel
theorem dL_law_548 : decode cL_law 548 = .ok (.invokevirtual 119, 3) := by decide +kernel
theorem dL_law_551 : decode cL_law 551 = .ok (.istore 6, 2) := by decide +kernel
theorem dL_law_553 : decode cL_law 553 = .ok (.aload_n 2, 1) := by decide +kernel
theorem dL_law_554 : decode cL_law 554 = .ok (.invokevirtual 100, 3) := by decide +kernel
theorem dL_law_557 : decode cL_law 557 = .ok (.iload 5, 2) := by decide +kernel
theorem dL_law_559 : decode cL_law 559 = .ok (.if_icmp .eq 5, 3) := by decide +kernel
theorem dL_law_562 : decode cL_law 562 = .ok (.iconst 0, 1) := by decide +kernel
theorem dL_law_563 : decode cL_law 563 = .ok (.ireturn, 1) := by decide +kernel
theorem dL_law_564 : decode cL_law 564 = .ok (.iload 5, 2) := by decide +kernel
theorem dL_law_566 : decode cL_law 566 = .ok (.ifCond .ne 15, 3) := by decide +kernel
theorem dL_law_569 : decode cL_law 569 = .ok (.aload_n 3, 1) := by decide +kernel
theorem dL_law_570 : decode cL_law 570 = .ok (.iconst 0, 1) := by decide +kernel
theorem dL_law_571 : decode cL_law 571 = .ok (.laload, 1) := by decide +kernel
theorem dL_law_572 : decode cL_law 572 = .ok (.iload 6, 2) := by decide +kernel
theorem dL_law_574 : decode cL_law 574 = .ok (.i2l, 1) := by decide +kernel
theorem dL_law_575 : decode cL_law 575 = .ok (.lcmp, 1) := by decide +kernel
theorem dL_law_576 : decode cL_law 576 = .ok (.ifCond .eq 5, 3) := by decide +kernel
theorem dL_law_579 : decode cL_law 579 = .ok (.iconst 0, 1) := by decide +kernel
theorem dL_law_580 : decode cL_law 580 = .ok (.ireturn, 1) := by decide +kernel
theorem dL_law_581 : decode cL_law 581 = .ok (.goto 1186, 3) := by decide +kernel
theorem dL_law_584 : decode cL_law 584 = .ok (.aload_n 1, 1) := by decide +kernel
theorem dL_law_585 : decode cL_law 585 = .ok (.aload_n 0, 1) := by decide +kernel
theorem dL_law_586 : decode cL_law 586 = .ok (.iload 4, 2) := by decide +kernel
theorem dL_law_588 : decode cL_law 588 = .ok (.iconst 1, 1) := by decide +kernel
theorem dL_law_589 : decode cL_law 589 = .ok (.iadd, 1) := by decide +kernel
theorem dL_law_590 : decode cL_law 590 = .ok (.iaload, 1) := by decide +kernel
theorem dL_law_591 : decode cL_law 591 = .ok (.aload_n 3, 1) := by decide +kernel
theorem dL_law_592 : decode cL_law 592 = .ok (.invokestatic 120, 3) := by decide +kernel
theorem dL_law_595 : decode cL_law 595 = .ok (.istore 5, 2) := by decide +kernel
theorem dL_law_597 : decode cL_law 597 = .ok (.aload_n 2, 1) := by decide +kernel
theorem dL_law_598 : decode cL_law 598 = .ok (.aload_n 0, 1) := by decide +kernel
theorem dL_law_599 : decode cL_law 599 = .ok (.iload 4, 2) := by decide +kernel
theorem dL_law_601 : decode cL_law 601 = .ok (.iconst 1, 1) := by decide +kernel
theorem dL_law_602 : decode cL_law 602 = .ok (.iadd, 1) := by decide +kernel
theorem dL_law_603 : decode cL_law 603 = .ok (.iaload, 1) := by decide +kernel
theorem dL_law_604 : decode cL_law 604 = .ok (.invokevirtual 123, 3) := by decide +kernel
theorem dL_law_607 : decode cL_law 607 = .ok (.istore 6, 2) := by decide +kernel
theorem dL_law_609 : decode cL_law 609 = .ok (.aload_n 2, 1) := by decide +kernel
theorem dL_law_610 : decode cL_law 610 = .ok (.invokevirtual 100, 3) := by decide +kernel
theorem dL_law_613 : decode cL_law 613 = .ok (.iload 5, 2) := by decide +kernel
theorem dL_law_615 : decode cL_law 615 = .ok (.if_icmp .eq 5, 3) := by decide +kernel
theorem dL_law_618 : decode cL_law 618 = .ok (.iconst 0, 1) := by decide +kernel
theorem dL_law_619 : decode cL_law 619 = .ok (.ireturn, 1) := by decide +kernel
theorem dL_law_620 : decode cL_law 620 = .ok (.iload 5, 2) := by decide +kernel
theorem dL_law_622 : decode cL_law 622 = .ok (.ifCond .ne 15, 3) := by decide +kernel
theorem dL_law_625 : decode cL_law 625 = .ok (.aload_n 3, 1) := by decide +kernel
theorem dL_law_626 : decode cL_law 626 = .ok (.iconst 0, 1) := by decide +kernel
theorem dL_law_627 : decode cL_law 627 = .ok (.laload, 1) := by decide +kernel
theorem dL_law_628 : decode cL_law 628 = .ok (.iload 6, 2) := by decide +kernel
theorem dL_law_630 : decode cL_law 630 = .ok (.i2l, 1) := by decide +kernel
theorem dL_law_631 : decode cL_law 631 = .ok (.lcmp, 1) := by decide +kernel
theorem dL_law_632 : decode cL_law 632 = .ok (.ifCond .eq 5, 3) := by decide +kernel
theorem dL_law_635 : decode cL_law 635 = .ok (.iconst 0, 1) := by decide +kernel
theorem dL_law_636 : decode cL_law 636 = .ok (.ireturn, 1) := by decide +kernel
theorem dL_law_637 : decode cL_law 637 = .ok (.goto 1130, 3) := by decide +kernel
theorem dL_law_640 : decode cL_law 640 = .ok (.aload_n 1, 1) := by decide +kernel
theorem dL_law_641 : decode cL_law 641 = .ok (.invokevirtual 124, 3) := by decide +kernel
theorem dL_law_644 : decode cL_law 644 = .ok (.aload_n 2, 1) := by decide +kernel
theorem dL_law_645 : decode cL_law 645 = .ok (.invokevirtual 127, 3) := by decide +kernel
theorem dL_law_648 : decode cL_law 648 = .ok (.if_icmp .eq 1119, 3) := by decide +kernel
theorem dL_law_651 : decode cL_law 651 = .ok (.iconst 0, 1) := by decide +kernel
theorem dL_law_652 : decode cL_law 652 = .ok (.ireturn, 1) := by decide +kernel
theorem dL_law_653 : decode cL_law 653 = .ok (.aload_n 1, 1) := by decide +kernel
theorem dL_law_654 : decode cL_law 654 = .ok (.invokevirtual 128, 3) := by decide +kernel
theorem dL_law_657 : decode cL_law 657 = .ok (.aload_n 2, 1) := by decide +kernel
theorem dL_law_658 : decode cL_law 658 = .ok (.invokevirtual 131, 3) := by decide +kernel
theorem dL_law_661 : decode cL_law 661 = .ok (.if_icmp .eq 1106, 3) := by decide +kernel
theorem dL_law_664 : decode cL_law 664 = .ok (.iconst 0, 1) := by decide +kernel
theorem dL_law_665 : decode cL_law 665 = .ok (.ireturn, 1) := by decide +kernel
theorem dL_law_666 : decode cL_law 666 = .ok (.aload_n 1, 1) := by decide +kernel
theorem dL_law_667 : decode cL_law 667 = .ok (.aload_n 0, 1) := by decide +kernel
theorem dL_law_668 : decode cL_law 668 = .ok (.iload 4, 2) := by decide +kernel
theorem dL_law_670 : decode cL_law 670 = .ok (.iconst 1, 1) := by decide +kernel
theorem dL_law_671 : decode cL_law 671 = .ok (.iadd, 1) := by decide +kernel
theorem dL_law_672 : decode cL_law 672 = .ok (.iaload, 1) := by decide +kernel
theorem dL_law_673 : decode cL_law 673 = .ok (.aload_n 3, 1) := by decide +kernel
theorem dL_law_674 : decode cL_law 674 = .ok (.invokestatic 132, 3) := by decide +kernel
theorem dL_law_677 : decode cL_law 677 = .ok (.istore 5, 2) := by decide +kernel
theorem dL_law_679 : decode cL_law 679 = .ok (.aload_n 2, 1) := by decide +kernel
theorem dL_law_680 : decode cL_law 680 = .ok (.aload_n 0, 1) := by decide +kernel
theorem dL_law_681 : decode cL_law 681 = .ok (.iload 4, 2) := by decide +kernel
theorem dL_law_683 : decode cL_law 683 = .ok (.iconst 1, 1) := by decide +kernel
theorem dL_law_684 : decode cL_law 684 = .ok (.iadd, 1) := by decide +kernel
theorem dL_law_685 : decode cL_law 685 = .ok (.iaload, 1) := by decide +kernel
theorem dL_law_686 : decode cL_law 686 = .ok (.invokevirtual 134, 3) := by decide +kernel
theorem dL_law_689 : decode cL_law 689 = .ok (.istore 6, 2) := by decide +kernel
theorem dL_law_691 : decode cL_law 691 = .ok (.aload_n 2, 1) := by decide +kernel
theorem dL_law_692 : decode cL_law 692 = .ok (.invokevirtual 100, 3) := by decide +kernel
theorem dL_law_695 : decode cL_law 695 = .ok (.iload 5, 2) := by decide +kernel
theorem dL_law_697 : decode cL_law 697 = .ok (.if_icmp .eq 5, 3) := by decide +kernel
theorem dL_law_700 : decode cL_law 700 = .ok (.iconst 0, 1) := by decide +kernel
theorem dL_law_701 : decode cL_law 701 = .ok (.ireturn, 1) := by decide +kernel
theorem dL_law_702 : decode cL_law 702 = .ok (.iload 5, 2) := by decide +kernel
theorem dL_law_704 : decode cL_law 704 = .ok (.ifCond .ne 15, 3) := by decide +kernel
theorem dL_law_707 : decode cL_law 707 = .ok (.aload_n 3, 1) := by decide +kernel
theorem dL_law_708 : decode cL_law 708 = .ok (.iconst 0, 1) := by decide +kernel
theorem dL_law_709 : decode cL_law 709 = .ok (.laload, 1) := by decide +kernel
theorem dL_law_710 : decode cL_law 710 = .ok (.iload 6, 2) := by decide +kernel
theorem dL_law_712 : decode cL_law 712 = .ok (.i2l, 1) := by decide +kernel
theorem dL_law_713 : decode cL_law 713 = .ok (.lcmp, 1) := by decide +kernel
theorem dL_law_714 : decode cL_law 714 = .ok (.ifCond .eq 5, 3) := by decide +kernel
theorem dL_law_717 : decode cL_law 717 = .ok (.iconst 0, 1) := by decide +kernel
theorem dL_law_718 : decode cL_law 718 = .ok (.ireturn, 1) := by decide +kernel
theorem dL_law_719 : decode cL_law 719 = .ok (.goto 1048, 3) := by decide +kernel
theorem dL_law_722 : decode cL_law 722 = .ok (.aload_n 1, 1) := by decide +kernel
theorem dL_law_723 : decode cL_law 723 = .ok (.aload_n 0, 1) := by decide +kernel
theorem dL_law_724 : decode cL_law 724 = .ok (.iload 4, 2) := by decide +kernel
theorem dL_law_726 : decode cL_law 726 = .ok (.iconst 1, 1) := by decide +kernel
theorem dL_law_727 : decode cL_law 727 = .ok (.iadd, 1) := by decide +kernel
theorem dL_law_728 : decode cL_law 728 = .ok (.iaload, 1) := by decide +kernel
theorem dL_law_729 : decode cL_law 729 = .ok (.aload_n 0, 1) := by decide +kernel
theorem dL_law_730 : decode cL_law 730 = .ok (.iload 4, 2) := by decide +kernel
theorem dL_law_732 : decode cL_law 732 = .ok (.iconst 2, 1) := by decide +kernel
theorem dL_law_733 : decode cL_law 733 = .ok (.iadd, 1) := by decide +kernel
theorem dL_law_734 : decode cL_law 734 = .ok (.iaload, 1) := by decide +kernel
theorem dL_law_735 : decode cL_law 735 = .ok (.aload_n 3, 1) := by decide +kernel
theorem dL_law_736 : decode cL_law 736 = .ok (.invokestatic 135, 3) := by decide +kernel
theorem dL_law_739 : decode cL_law 739 = .ok (.istore 5, 2) := by decide +kernel
theorem dL_law_741 : decode cL_law 741 = .ok (.aload_n 2, 1) := by decide +kernel
theorem dL_law_742 : decode cL_law 742 = .ok (.aload_n 0, 1) := by decide +kernel
theorem dL_law_743 : decode cL_law 743 = .ok (.iload 4, 2) := by decide +kernel
theorem dL_law_745 : decode cL_law 745 = .ok (.iconst 1, 1) := by decide +kernel
theorem dL_law_746 : decode cL_law 746 = .ok (.iadd, 1) := by decide +kernel
theorem dL_law_747 : decode cL_law 747 = .ok (.iaload, 1) := by decide +kernel
theorem dL_law_748 : decode cL_law 748 = .ok (.aload_n 0, 1) := by decide +kernel
theorem dL_law_749 : decode cL_law 749 = .ok (.iload 4, 2) := by decide +kernel
theorem dL_law_751 : decode cL_law 751 = .ok (.iconst 2, 1) := by decide +kernel
theorem dL_law_752 : decode cL_law 752 = .ok (.iadd, 1) := by decide +kernel
theorem dL_law_753 : decode cL_law 753 = .ok (.iaload, 1) := by decide +kernel
theorem dL_law_754 : decode cL_law 754 = .ok (.invokevirtual 137, 3) := by decide +kernel
theorem dL_law_757 : decode cL_law 757 = .ok (.istore 6, 2) := by decide +kernel
theorem dL_law_759 : decode cL_law 759 = .ok (.aload_n 2, 1) := by decide +kernel
theorem dL_law_760 : decode cL_law 760 = .ok (.invokevirtual 100, 3) := by decide +kernel
theorem dL_law_763 : decode cL_law 763 = .ok (.iload 5, 2) := by decide +kernel
theorem dL_law_765 : decode cL_law 765 = .ok (.if_icmp .eq 5, 3) := by decide +kernel
theorem dL_law_768 : decode cL_law 768 = .ok (.iconst 0, 1) := by decide +kernel
theorem dL_law_769 : decode cL_law 769 = .ok (.ireturn, 1) := by decide +kernel
theorem dL_law_770 : decode cL_law 770 = .ok (.iload 5, 2) := by decide +kernel
theorem dL_law_772 : decode cL_law 772 = .ok (.ifCond .ne 15, 3) := by decide +kernel
theorem dL_law_775 : decode cL_law 775 = .ok (.aload_n 3, 1) := by decide +kernel
theorem dL_law_776 : decode cL_law 776 = .ok (.iconst 0, 1) := by decide +kernel
theorem dL_law_777 : decode cL_law 777 = .ok (.laload, 1) := by decide +kernel
theorem dL_law_778 : decode cL_law 778 = .ok (.iload 6, 2) := by decide +kernel
theorem dL_law_780 : decode cL_law 780 = .ok (.i2l, 1) := by decide +kernel
theorem dL_law_781 : decode cL_law 781 = .ok (.lcmp, 1) := by decide +kernel
theorem dL_law_782 : decode cL_law 782 = .ok (.ifCond .eq 5, 3) := by decide +kernel
theorem dL_law_785 : decode cL_law 785 = .ok (.iconst 0, 1) := by decide +kernel
theorem dL_law_786 : decode cL_law 786 = .ok (.ireturn, 1) := by decide +kernel
theorem dL_law_787 : decode cL_law 787 = .ok (.goto 980, 3) := by decide +kernel
theorem dL_law_790 : decode cL_law 790 = .ok (.aload_n 1, 1) := by decide +kernel
theorem dL_law_791 : decode cL_law 791 = .ok (.aload_n 0, 1) := by decide +kernel
theorem dL_law_792 : decode cL_law 792 = .ok (.iload 4, 2) := by decide +kernel
theorem dL_law_794 : decode cL_law 794 = .ok (.iconst 1, 1) := by decide +kernel
theorem dL_law_795 : decode cL_law 795 = .ok (.iadd, 1) := by decide +kernel
theorem dL_law_796 : decode cL_law 796 = .ok (.iaload, 1) := by decide +kernel
theorem dL_law_797 : decode cL_law 797 = .ok (.aload_n 0, 1) := by decide +kernel
theorem dL_law_798 : decode cL_law 798 = .ok (.iload 4, 2) := by decide +kernel
theorem dL_law_800 : decode cL_law 800 = .ok (.iconst 2, 1) := by decide +kernel
theorem dL_law_801 : decode cL_law 801 = .ok (.iadd, 1) := by decide +kernel
theorem dL_law_802 : decode cL_law 802 = .ok (.iaload, 1) := by decide +kernel
theorem dL_law_803 : decode cL_law 803 = .ok (.aload_n 3, 1) := by decide +kernel
theorem dL_law_804 : decode cL_law 804 = .ok (.invokestatic 138, 3) := by decide +kernel
theorem dL_law_807 : decode cL_law 807 = .ok (.istore 5, 2) := by decide +kernel
theorem dL_law_809 : decode cL_law 809 = .ok (.aload_n 2, 1) := by decide +kernel
theorem dL_law_810 : decode cL_law 810 = .ok (.aload_n 0, 1) := by decide +kernel
theorem dL_law_811 : decode cL_law 811 = .ok (.iload 4, 2) := by decide +kernel
theorem dL_law_813 : decode cL_law 813 = .ok (.iconst 1, 1) := by decide +kernel
theorem dL_law_814 : decode cL_law 814 = .ok (.iadd, 1) := by decide +kernel
theorem dL_law_815 : decode cL_law 815 = .ok (.iaload, 1) := by decide +kernel
theorem dL_law_816 : decode cL_law 816 = .ok (.aload_n 0, 1) := by decide +kernel
theorem dL_law_817 : decode cL_law 817 = .ok (.iload 4, 2) := by decide +kernel
theorem dL_law_819 : decode cL_law 819 = .ok (.iconst 2, 1) := by decide +kernel
theorem dL_law_820 : decode cL_law 820 = .ok (.iadd, 1) := by decide +kernel
theorem dL_law_821 : decode cL_law 821 = .ok (.iaload, 1) := by decide +kernel
theorem dL_law_822 : decode cL_law 822 = .ok (.invokevirtual 140, 3) := by decide +kernel
theorem dL_law_825 : decode cL_law 825 = .ok (.istore 6, 2) := by decide +kernel
theorem dL_law_827 : decode cL_law 827 = .ok (.aload_n 2, 1) := by decide +kernel
theorem dL_law_828 : decode cL_law 828 = .ok (.invokevirtual 100, 3) := by decide +kernel
theorem dL_law_831 : decode cL_law 831 = .ok (.iload 5, 2) := by decide +kernel
theorem dL_law_833 : decode cL_law 833 = .ok (.if_icmp .eq 5, 3) := by decide +kernel
theorem dL_law_836 : decode cL_law 836 = .ok (.iconst 0, 1) := by decide +kernel
theorem dL_law_837 : decode cL_law 837 = .ok (.ireturn, 1) := by decide +kernel
theorem dL_law_838 : decode cL_law 838 = .ok (.iload 5, 2) := by decide +kernel
theorem dL_law_840 : decode cL_law 840 = .ok (.ifCond .ne 15, 3) := by decide +kernel
theorem dL_law_843 : decode cL_law 843 = .ok (.aload_n 3, 1) := by decide +kernel
theorem dL_law_844 : decode cL_law 844 = .ok (.iconst 0, 1) := by decide +kernel
theorem dL_law_845 : decode cL_law 845 = .ok (.laload, 1) := by decide +kernel
theorem dL_law_846 : decode cL_law 846 = .ok (.iload 6, 2) := by decide +kernel
theorem dL_law_848 : decode cL_law 848 = .ok (.i2l, 1) := by decide +kernel
theorem dL_law_849 : decode cL_law 849 = .ok (.lcmp, 1) := by decide +kernel
theorem dL_law_850 : decode cL_law 850 = .ok (.ifCond .eq 5, 3) := by decide +kernel
theorem dL_law_853 : decode cL_law 853 = .ok (.iconst 0, 1) := by decide +kernel
theorem dL_law_854 : decode cL_law 854 = .ok (.ireturn, 1) := by decide +kernel
theorem dL_law_855 : decode cL_law 855 = .ok (.goto 912, 3) := by decide +kernel
theorem dL_law_858 : decode cL_law 858 = .ok (.aload_n 1, 1) := by decide +kernel
theorem dL_law_859 : decode cL_law 859 = .ok (.aload_n 0, 1) := by decide +kernel
theorem dL_law_860 : decode cL_law 860 = .ok (.iload 4, 2) := by decide +kernel
theorem dL_law_862 : decode cL_law 862 = .ok (.iconst 1, 1) := by decide +kernel
theorem dL_law_863 : decode cL_law 863 = .ok (.iadd, 1) := by decide +kernel
theorem dL_law_864 : decode cL_law 864 = .ok (.iaload, 1) := by decide +kernel
theorem dL_law_865 : decode cL_law 865 = .ok (.aload_n 3, 1) := by decide +kernel
theorem dL_law_866 : decode cL_law 866 = .ok (.invokestatic 141, 3) := by decide +kernel
theorem dL_law_869 : decode cL_law 869 = .ok (.istore 5, 2) := by decide +kernel
theorem dL_law_871 : decode cL_law 871 = .ok (.aload_n 2, 1) := by decide +kernel
theorem dL_law_872 : decode cL_law 872 = .ok (.aload_n 0, 1) := by decide +kernel
theorem dL_law_873 : decode cL_law 873 = .ok (.iload 4, 2) := by decide +kernel
theorem dL_law_875 : decode cL_law 875 = .ok (.iconst 1, 1) := by decide +kernel
theorem dL_law_876 : decode cL_law 876 = .ok (.iadd, 1) := by decide +kernel
theorem dL_law_877 : decode cL_law 877 = .ok (.iaload, 1) := by decide +kernel
theorem dL_law_878 : decode cL_law 878 = .ok (.invokevirtual 143, 3) := by decide +kernel
theorem dL_law_881 : decode cL_law 881 = .ok (.istore 6, 2) := by decide +kernel
theorem dL_law_883 : decode cL_law 883 = .ok (.aload_n 2, 1) := by decide +kernel
theorem dL_law_884 : decode cL_law 884 = .ok (.invokevirtual 100, 3) := by decide +kernel
theorem dL_law_887 : decode cL_law 887 = .ok (.iload 5, 2) := by decide +kernel
theorem dL_law_889 : decode cL_law 889 = .ok (.if_icmp .eq 5, 3) := by decide +kernel
theorem dL_law_892 : decode cL_law 892 = .ok (.iconst 0, 1) := by decide +kernel
theorem dL_law_893 : decode cL_law 893 = .ok (.ireturn, 1) := by decide +kernel
theorem dL_law_894 : decode cL_law 894 = .ok (.iload 5, 2) := by decide +kernel
theorem dL_law_896 : decode cL_law 896 = .ok (.ifCond .ne 15, 3) := by decide +kernel
theorem dL_law_899 : decode cL_law 899 = .ok (.aload_n 3, 1) := by decide +kernel
