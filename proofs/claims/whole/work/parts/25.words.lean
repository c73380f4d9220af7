set_option maxRecDepth 20000 in
theorem ggL_law_X1_init : GoodIn wsL_law wsX1_init := goodIn_r _ [9, 10, 11, 12, 13, 14, 15, 16, 17, 18, 19, 20, 21, 22, 23, 24, 25, 26, 27, 28, 29, 30, 31, 32, 672, 673, 674, 675, 676, 677, 678, 679, 680, 687, 688, 689] (by decide +kernel) (by decide +kernel)
set_option maxRecDepth 20000 in
theorem gL_law_X1_init : GoodIn wsL_law (wsX1_init) := ggL_law_X1_init
set_option maxRecDepth 20000 in
theorem ggL_law_X2_init : GoodIn wsL_law wsX2_init := goodIn_r _ [35, 36, 11, 12, 37, 38, 39, 17, 40, 41, 681, 682, 683, 684, 685, 686] (by decide +kernel) (by decide +kernel)
set_option maxRecDepth 20000 in
theorem gL_law_X2_init : GoodIn wsL_law (wsX2_init) := ggL_law_X2_init
set_option maxRecDepth 20000 in
theorem ggL_law_L_addHeading : GoodIn wsL_law wsL_addHeading := goodIn_ca (goodIn_r _ [45, 46, 47, 48, 49, 2, 50, 51, 52, 24, 18, 672, 673, 674, 675, 676, 677, 678, 679, 680] (by decide +kernel) (by decide +kernel)) (goodIn_sub (fun _ h => List.mem_append_left _ (List.mem_append_left _ (List.mem_append_right _ h))) (by decide +kernel))
set_option maxRecDepth 20000 in
theorem gL_law_L_addHeading : GoodIn wsL_law (va_wsS RL 94 yL_addHeading wsL_addHeading) := goodIn_app (goodIn_of _ (by decide +kernel)) ggL_law_L_addHeading
set_option maxRecDepth 20000 in
theorem ggL_law_X2_addHeading : GoodIn wsL_law wsX2_addHeading := goodIn_r _ [56, 57, 58, 40, 59, 60, 61, 5, 62, 681, 682, 683, 684, 685, 686] (by decide +kernel) (by decide +kernel)
set_option maxRecDepth 20000 in
theorem gL_law_X2_addHeading : GoodIn wsL_law (wsV RL 99 RX2 yX2_addHeading wsX2_addHeading) := goodIn_app (goodIn_of _ (by decide +kernel)) ggL_law_X2_addHeading
set_option maxRecDepth 20000 in
theorem ggL_law_X2_thrown : GoodIn wsL_law wsX2_thrown := goodIn_r _ [66, 57, 681, 682, 683, 684, 685, 686] (by decide +kernel) (by decide +kernel)
set_option maxRecDepth 20000 in
theorem gL_law_X2_thrown : GoodIn wsL_law (wsV RL 100 RX2 yX2_thrown wsX2_thrown) := goodIn_app (goodIn_of _ (by decide +kernel)) ggL_law_X2_thrown
set_option maxRecDepth 20000 in
theorem ggL_law_L_addPages : GoodIn wsL_law wsL_addPages := goodIn_ca (goodIn_ca (goodIn_ca (goodIn_r _ [69, 70, 71, 46, 72, 73, 74, 2, 75, 51, 52, 21, 22, 76, 77, 78, 79, 80, 81, 82, 83, 84, 85, 24, 86, 87, 88, 89, 90, 91, 25, 92, 93, 94, 95, 18, 96, 97, 98, 99, 14, 23, 100, 101, 102, 16, 103, 32, 104, 105, 106, 107, 31, 108, 109, 110, 111, 30, 112, 113, 114, 115, 116, 117, 118, 119, 120, 121, 122, 123, 124, 125, 126, 127, 128, 129, 130, 131, 132, 133, 134, 135, 136, 137, 138, 139, 672, 673, 674, 675, 676, 677, 678, 679, 680, 687, 688, 689] (by decide +kernel) (by decide +kernel)) (goodIn_sub (fun _ h => List.mem_append_left _ (List.mem_append_left _ (List.mem_append_right _ h))) (by decide +kernel))) (goodIn_sub (fun _ h => List.mem_append_left _ (List.mem_append_right _ h)) (by decide +kernel))) (goodIn_sub (fun _ h => List.mem_append_right _ h) (by decide +kernel))
set_option maxRecDepth 20000 in
theorem gL_law_L_addPages : GoodIn wsL_law (va_wsS RL 103 yL_addPages wsL_addPages) := goodIn_app (goodIn_of _ (by decide +kernel)) ggL_law_L_addPages
set_option maxRecDepth 20000 in
theorem ggL_law_X2_addPages : GoodIn wsL_law wsX2_addPages := goodIn_r _ [143, 57, 40, 144, 145, 146, 5, 147, 58, 148, 149, 150, 59, 60, 61, 62, 151, 152, 153, 154, 37, 155, 156, 157, 158, 159, 160, 161, 162, 39, 163, 164, 165, 166, 167, 168, 169, 170, 171, 172, 173, 174, 681, 682, 683, 684, 685, 686] (by decide +kernel) (by decide +kernel)
set_option maxRecDepth 20000 in
theorem gL_law_X2_addPages : GoodIn wsL_law (wsV RL 106 RX2 yX2_addPages wsX2_addPages) := goodIn_app (goodIn_of _ (by decide +kernel)) ggL_law_X2_addPages
set_option maxRecDepth 20000 in
theorem ggL_law_L_takePages : GoodIn wsL_law wsL_takePages := goodIn_ca (goodIn_ca (goodIn_ca (goodIn_r _ [177, 70, 71, 46, 178, 179, 180, 2, 181, 22, 76, 77, 78, 79, 80, 81, 82, 83, 84, 85, 24, 86, 87, 88, 89, 90, 91, 25, 96, 97, 98, 99, 14, 23, 182, 183, 184, 16, 185, 32, 30, 31, 186, 187, 110, 188, 108, 109, 111, 189, 190, 191, 192, 104, 105, 106, 107, 124, 125, 126, 127, 51, 52, 128, 129, 130, 131, 193, 194, 195, 196, 132, 133, 134, 135, 136, 137, 138, 139, 672, 673, 674, 675, 676, 677, 678, 679, 680, 687, 688, 689] (by decide +kernel) (by decide +kernel)) (goodIn_sub (fun _ h => List.mem_append_left _ (List.mem_append_right _ h)) (by decide +kernel))) (goodIn_sub (fun _ h => List.mem_append_right _ h) (by decide +kernel))) (goodIn_sub (fun _ h => List.mem_append_left _ (List.mem_append_left _ (List.mem_append_right _ h))) (by decide +kernel))
set_option maxRecDepth 20000 in
theorem gL_law_L_takePages : GoodIn wsL_law (va_wsS RL 107 yL_takePages wsL_takePages) := goodIn_app (goodIn_of _ (by decide +kernel)) ggL_law_L_takePages
set_option maxRecDepth 20000 in
theorem ggL_law_X2_takePages : GoodIn wsL_law wsX2_takePages := goodIn_r _ [200, 57, 144, 145, 146, 5, 147, 58, 148, 149, 150, 59, 60, 61, 62, 151, 152, 153, 154, 37, 155, 156, 157, 158, 159, 160, 161, 162, 39, 201, 202, 203, 204, 163, 164, 165, 166, 167, 168, 169, 170, 681, 682, 683, 684, 685, 686] (by decide +kernel) (by decide +kernel)
set_option maxRecDepth 20000 in
theorem gL_law_X2_takePages : GoodIn wsL_law (wsV RL 109 RX2 yX2_takePages wsX2_takePages) := goodIn_app (goodIn_of _ (by decide +kernel)) ggL_law_X2_takePages
set_option maxRecDepth 20000 in
theorem ggL_law_L_setSee : GoodIn wsL_law wsL_setSee := goodIn_ca (goodIn_ca (goodIn_ca (goodIn_r _ [207, 70, 71, 46, 208, 209, 210, 2, 211, 18, 76, 77, 78, 79, 80, 81, 82, 83, 84, 85, 24, 212, 213, 214, 215, 90, 91, 216, 217, 218, 219, 51, 52, 96, 97, 98, 99, 14, 23, 128, 129, 130, 16, 131, 32, 672, 673, 674, 675, 676, 677, 678, 679, 680, 687, 688, 689] (by decide +kernel) (by decide +kernel)) (goodIn_sub (fun _ h => List.mem_append_left _ (List.mem_append_right _ h)) (by decide +kernel))) (goodIn_sub (fun _ h => List.mem_append_right _ h) (by decide +kernel))) (goodIn_sub (fun _ h => List.mem_append_left _ (List.mem_append_left _ (List.mem_append_right _ h))) (by decide +kernel))
set_option maxRecDepth 20000 in
theorem gL_law_L_setSee : GoodIn wsL_law (va_wsS RL 110 yL_setSee wsL_setSee) := goodIn_app (goodIn_of _ (by decide +kernel)) ggL_law_L_setSee
set_option maxRecDepth 20000 in
theorem ggL_law_X2_setSee : GoodIn wsL_law wsX2_setSee := goodIn_r _ [223, 57, 40, 144, 145, 146, 5, 147, 58, 148, 149, 150, 59, 60, 61, 62, 201, 202, 203, 204, 37, 159, 160, 161, 162, 39, 681, 682, 683, 684, 685, 686] (by decide +kernel) (by decide +kernel)
set_option maxRecDepth 20000 in
theorem gL_law_X2_setSee : GoodIn wsL_law (wsV RL 113 RX2 yX2_setSee wsX2_setSee) := goodIn_app (goodIn_of _ (by decide +kernel)) ggL_law_X2_setSee
set_option maxRecDepth 20000 in
theorem ggL_law_L_turnSeeAlso : GoodIn wsL_law wsL_turnSeeAlso := goodIn_ca (goodIn_ca (goodIn_ca (goodIn_r _ [226, 70, 71, 46, 227, 228, 229, 2, 230, 51, 52, 19, 76, 77, 78, 79, 80, 81, 82, 83, 84, 85, 24, 212, 213, 214, 215, 90, 91, 231, 232, 233, 234, 235, 236, 237, 238, 239, 240, 672, 673, 674, 675, 676, 677, 678, 679, 680] (by decide +kernel) (by decide +kernel)) (goodIn_sub (fun _ h => List.mem_append_left _ (List.mem_append_left _ (List.mem_append_right _ h))) (by decide +kernel))) (goodIn_sub (fun _ h => List.mem_append_left _ (List.mem_append_right _ h)) (by decide +kernel))) (goodIn_sub (fun _ h => List.mem_append_right _ h) (by decide +kernel))
set_option maxRecDepth 20000 in
theorem gL_law_L_turnSeeAlso : GoodIn wsL_law (va_wsS RL 114 yL_turnSeeAlso wsL_turnSeeAlso) := goodIn_app (goodIn_of _ (by decide +kernel)) ggL_law_L_turnSeeAlso
set_option maxRecDepth 20000 in
theorem ggL_law_X2_turnSeeAlso : GoodIn wsL_law wsX2_turnSeeAlso := goodIn_r _ [244, 57, 41, 144, 145, 146, 5, 147, 58, 148, 149, 150, 59, 60, 61, 62, 245, 235, 236, 237, 238, 239, 240, 681, 682, 683, 684, 685, 686] (by decide +kernel) (by decide +kernel)
set_option maxRecDepth 20000 in
theorem gL_law_X2_turnSeeAlso : GoodIn wsL_law (wsV RL 116 RX2 yX2_turnSeeAlso wsX2_turnSeeAlso) := goodIn_app (goodIn_of _ (by decide +kernel)) ggL_law_X2_turnSeeAlso
set_option maxRecDepth 20000 in
theorem ggL_law_L_putIn : GoodIn wsL_law wsL_putIn := goodIn_ca (goodIn_ca (goodIn_r _ [248, 71, 46, 249, 250, 251, 2, 252, 90, 91, 51, 52, 25, 24, 96, 97, 98, 99, 14, 23, 82, 83, 84, 85, 253, 254, 255, 16, 256, 32, 30, 31, 672, 673, 674, 675, 676, 677, 678, 679, 680, 687, 688, 689] (by decide +kernel) (by decide +kernel)) (goodIn_sub (fun _ h => List.mem_append_right _ h) (by decide +kernel))) (goodIn_sub (fun _ h => List.mem_append_left _ (List.mem_append_left _ (List.mem_append_right _ h))) (by decide +kernel))
set_option maxRecDepth 20000 in
theorem gL_law_L_putIn : GoodIn wsL_law (va_wsS RL 117 yL_putIn wsL_putIn) := goodIn_app (goodIn_of _ (by decide +kernel)) ggL_law_L_putIn
set_option maxRecDepth 20000 in
theorem ggL_law_X2_putIn : GoodIn wsL_law wsX2_putIn := goodIn_r _ [260, 57, 37, 58, 148, 149, 5, 150, 59, 60, 61, 62, 159, 160, 161, 162, 39, 167, 168, 169, 170, 163, 164, 165, 166, 681, 682, 683, 684, 685, 686] (by decide +kernel) (by decide +kernel)
set_option maxRecDepth 20000 in
theorem gL_law_X2_putIn : GoodIn wsL_law (wsV RL 119 RX2 yX2_putIn wsX2_putIn) := goodIn_app (goodIn_of _ (by decide +kernel)) ggL_law_X2_putIn
set_option maxRecDepth 20000 in
theorem ggL_law_L_takeOut : GoodIn wsL_law wsL_takeOut := goodIn_ca (goodIn_ca (goodIn_r _ [263, 71, 46, 264, 265, 266, 2, 267, 51, 52, 25, 24, 22, 268, 269, 270, 271, 90, 91, 272, 273, 274, 275, 96, 97, 98, 99, 14, 23, 82, 83, 84, 85, 276, 277, 278, 16, 279, 32, 30, 31, 280, 281, 282, 283, 189, 190, 191, 192, 104, 105, 106, 107, 108, 109, 110, 111, 132, 133, 134, 135, 136, 137, 138, 139, 672, 673, 674, 675, 676, 677, 678, 679, 680, 687, 688, 689] (by decide +kernel) (by decide +kernel)) (goodIn_sub (fun _ h => List.mem_append_left _ (List.mem_append_left _ (List.mem_append_right _ h))) (by decide +kernel))) (goodIn_sub (fun _ h => List.mem_append_right _ h) (by decide +kernel))
set_option maxRecDepth 20000 in
theorem gL_law_L_takeOut : GoodIn wsL_law (va_wsS RL 120 yL_takeOut wsL_takeOut) := goodIn_app (goodIn_of _ (by decide +kernel)) ggL_law_L_takeOut
set_option maxRecDepth 20000 in
theorem ggL_law_X2_takeOut : GoodIn wsL_law wsX2_takeOut := goodIn_r _ [287, 57, 37, 58, 288, 289, 290, 5, 291, 148, 149, 150, 59, 60, 61, 62, 292, 293, 294, 295, 159, 160, 161, 162, 39, 167, 168, 169, 170, 681, 682, 683, 684, 685, 686] (by decide +kernel) (by decide +kernel)
set_option maxRecDepth 20000 in
theorem gL_law_X2_takeOut : GoodIn wsL_law (wsV RL 123 RX2 yX2_takeOut wsX2_takeOut) := goodIn_app (goodIn_of _ (by decide +kernel)) ggL_law_X2_takeOut
set_option maxRecDepth 20000 in
theorem ggL_law_X1_bookPages : GoodIn wsL_law wsX1_bookPages := goodIn_r _ [299, 25, 672, 673, 674, 675, 676, 677, 678, 679, 680] (by decide +kernel) (by decide +kernel)
set_option maxRecDepth 20000 in
theorem gL_law_X1_bookPages : GoodIn wsL_law (wsV RL 124 RX1 yX1_bookPages wsX1_bookPages) := goodIn_app (goodIn_of _ (by decide +kernel)) ggL_law_X1_bookPages
set_option maxRecDepth 20000 in
theorem ggL_law_X2_bookPages : GoodIn wsL_law wsX2_bookPages := goodIn_r _ [303, 37, 304, 305, 306, 5, 307, 57, 681, 682, 683, 684, 685, 686] (by decide +kernel) (by decide +kernel)
set_option maxRecDepth 20000 in
theorem gL_law_X2_bookPages : GoodIn wsL_law (wsV RL 127 RX2 yX2_bookPages wsX2_bookPages) := goodIn_app (goodIn_of _ (by decide +kernel)) ggL_law_X2_bookPages
set_option maxRecDepth 20000 in
theorem ggL_law_X1_headings : GoodIn wsL_law wsX1_headings := goodIn_r _ [311, 24, 672, 673, 674, 675, 676, 677, 678, 679, 680] (by decide +kernel) (by decide +kernel)
set_option maxRecDepth 20000 in
theorem gL_law_X1_headings : GoodIn wsL_law (wsV RL 128 RX1 yX1_headings wsX1_headings) := goodIn_app (goodIn_of _ (by decide +kernel)) ggL_law_X1_headings
set_option maxRecDepth 20000 in
theorem ggL_law_X2_headings : GoodIn wsL_law wsX2_headings := goodIn_r _ [315, 58, 304, 305, 306, 5, 307, 57, 681, 682, 683, 684, 685, 686] (by decide +kernel) (by decide +kernel)
set_option maxRecDepth 20000 in
theorem gL_law_X2_headings : GoodIn wsL_law (wsV RL 131 RX2 yX2_headings wsX2_headings) := goodIn_app (goodIn_of _ (by decide +kernel)) ggL_law_X2_headings
set_option maxRecDepth 20000 in
theorem ggL_law_L_spansOf : GoodIn wsL_law wsL_spansOf := goodIn_ca (goodIn_r _ [318, 70, 319, 320, 321, 2, 322, 76, 77, 78, 79, 80, 81, 82, 83, 84, 85, 24, 96, 97, 98, 99, 14, 23, 128, 129, 130, 16, 131, 32, 672, 673, 674, 675, 676, 677, 678, 679, 680, 687, 688, 689] (by decide +kernel) (by decide +kernel)) (goodIn_sub (fun _ h => List.mem_append_left _ (List.mem_append_right _ h)) (by decide +kernel))
set_option maxRecDepth 20000 in
theorem gL_law_L_spansOf : GoodIn wsL_law (va_wsS RL 132 yL_spansOf wsL_spansOf) := goodIn_app (goodIn_of _ (by decide +kernel)) ggL_law_L_spansOf
set_option maxRecDepth 20000 in
theorem ggL_law_X2_spansOf : GoodIn wsL_law wsX2_spansOf := goodIn_r _ [326, 57, 144, 145, 146, 5, 147, 58, 148, 149, 150, 171, 172, 173, 174, 37, 159, 160, 161, 162, 39, 59, 60, 61, 62, 681, 682, 683, 684, 685, 686] (by decide +kernel) (by decide +kernel)
set_option maxRecDepth 20000 in
theorem gL_law_X2_spansOf : GoodIn wsL_law (wsV RL 134 RX2 yX2_spansOf wsX2_spansOf) := goodIn_app (goodIn_of _ (by decide +kernel)) ggL_law_X2_spansOf
set_option maxRecDepth 20000 in
theorem ggL_law_L_startOf : GoodIn wsL_law wsL_startOf := goodIn_ca (goodIn_r _ [329, 70, 330, 331, 332, 2, 333, 76, 77, 78, 79, 80, 81, 82, 83, 84, 85, 24, 334, 335, 336, 337, 96, 97, 98, 99, 14, 23, 128, 129, 130, 16, 131, 32, 338, 117, 118, 119, 30, 672, 673, 674, 675, 676, 677, 678, 679, 680, 687, 688, 689] (by decide +kernel) (by decide +kernel)) (goodIn_sub (fun _ h => List.mem_append_left _ (List.mem_append_right _ h)) (by decide +kernel))
set_option maxRecDepth 20000 in
theorem gL_law_L_startOf : GoodIn wsL_law (va_wsS RL 135 yL_startOf wsL_startOf) := goodIn_app (goodIn_of _ (by decide +kernel)) ggL_law_L_startOf
set_option maxRecDepth 20000 in
theorem ggL_law_X2_startOf : GoodIn wsL_law wsX2_startOf := goodIn_r _ [342, 57, 343, 344, 345, 5, 346, 144, 145, 146, 147, 58, 148, 149, 150, 171, 172, 173, 174, 37, 159, 160, 161, 162, 39, 347, 348, 349, 350, 59, 60, 61, 62, 681, 682, 683, 684, 685, 686] (by decide +kernel) (by decide +kernel)
set_option maxRecDepth 20000 in
theorem gL_law_X2_startOf : GoodIn wsL_law (wsV RL 137 RX2 yX2_startOf wsX2_startOf) := goodIn_app (goodIn_of _ (by decide +kernel)) ggL_law_X2_startOf
set_option maxRecDepth 20000 in
theorem ggL_law_L_endOf : GoodIn wsL_law wsL_endOf := goodIn_ca (goodIn_r _ [353, 70, 354, 355, 356, 2, 357, 76, 77, 78, 79, 80, 81, 82, 83, 84, 85, 24, 334, 335, 336, 337, 96, 97, 98, 99, 14, 23, 128, 129, 130, 16, 131, 32, 358, 121, 122, 123, 31, 672, 673, 674, 675, 676, 677, 678, 679, 680, 687, 688, 689] (by decide +kernel) (by decide +kernel)) (goodIn_sub (fun _ h => List.mem_append_left _ (List.mem_append_right _ h)) (by decide +kernel))
set_option maxRecDepth 20000 in
theorem gL_law_L_endOf : GoodIn wsL_law (va_wsS RL 138 yL_endOf wsL_endOf) := goodIn_app (goodIn_of _ (by decide +kernel)) ggL_law_L_endOf
set_option maxRecDepth 20000 in
theorem ggL_law_X2_endOf : GoodIn wsL_law wsX2_endOf := goodIn_r _ [362, 57, 343, 344, 345, 5, 346, 144, 145, 146, 147, 58, 148, 149, 150, 171, 172, 173, 174, 37, 159, 160, 161, 162, 39, 363, 364, 365, 366, 347, 348, 349, 350, 59, 60, 61, 62, 681, 682, 683, 684, 685, 686] (by decide +kernel) (by decide +kernel)
set_option maxRecDepth 20000 in
theorem gL_law_X2_endOf : GoodIn wsL_law (wsV RL 140 RX2 yX2_endOf wsX2_endOf) := goodIn_app (goodIn_of _ (by decide +kernel)) ggL_law_X2_endOf
set_option maxRecDepth 20000 in
theorem ggL_law_L_pagesOf : GoodIn wsL_law wsL_pagesOf := goodIn_ca (goodIn_r _ [369, 70, 370, 371, 372, 2, 373, 76, 77, 78, 79, 80, 81, 82, 83, 84, 85, 24, 96, 97, 98, 99, 14, 23, 193, 194, 195, 16, 196, 32, 31, 30, 672, 673, 674, 675, 676, 677, 678, 679, 680, 687, 688, 689] (by decide +kernel) (by decide +kernel)) (goodIn_sub (fun _ h => List.mem_append_left _ (List.mem_append_right _ h)) (by decide +kernel))
set_option maxRecDepth 20000 in
theorem gL_law_L_pagesOf : GoodIn wsL_law (va_wsS RL 141 yL_pagesOf wsL_pagesOf) := goodIn_app (goodIn_of _ (by decide +kernel)) ggL_law_L_pagesOf
set_option maxRecDepth 20000 in
theorem ggL_law_X2_pagesOf : GoodIn wsL_law wsX2_pagesOf := goodIn_r _ [377, 57, 144, 145, 146, 5, 147, 58, 148, 149, 150, 201, 202, 203, 204, 37, 159, 160, 161, 162, 39, 59, 60, 61, 62, 681, 682, 683, 684, 685, 686] (by decide +kernel) (by decide +kernel)
set_option maxRecDepth 20000 in
theorem gL_law_X2_pagesOf : GoodIn wsL_law (wsV RL 143 RX2 yX2_pagesOf wsX2_pagesOf) := goodIn_app (goodIn_of _ (by decide +kernel)) ggL_law_X2_pagesOf
set_option maxRecDepth 20000 in
theorem ggL_law_L_seeOf : GoodIn wsL_law wsL_seeOf := goodIn_ca (goodIn_r _ [380, 70, 381, 382, 383, 2, 384, 76, 77, 78, 79, 80, 81, 82, 83, 84, 85, 24, 92, 93, 94, 95, 18, 672, 673, 674, 675, 676, 677, 678, 679, 680] (by decide +kernel) (by decide +kernel)) (goodIn_sub (fun _ h => List.mem_append_left _ (List.mem_append_right _ h)) (by decide +kernel))
set_option maxRecDepth 20000 in
theorem gL_law_L_seeOf : GoodIn wsL_law (va_wsS RL 144 yL_seeOf wsL_seeOf) := goodIn_app (goodIn_of _ (by decide +kernel)) ggL_law_L_seeOf
set_option maxRecDepth 20000 in
theorem ggL_law_X2_seeOf : GoodIn wsL_law wsX2_seeOf := goodIn_r _ [388, 57, 40, 144, 145, 146, 5, 147, 58, 148, 149, 150, 59, 60, 61, 62, 681, 682, 683, 684, 685, 686] (by decide +kernel) (by decide +kernel)
set_option maxRecDepth 20000 in
theorem gL_law_X2_seeOf : GoodIn wsL_law (wsV RL 146 RX2 yX2_seeOf wsX2_seeOf) := goodIn_app (goodIn_of _ (by decide +kernel)) ggL_law_X2_seeOf
set_option maxRecDepth 20000 in
theorem ggL_law_L_seeAlsosOf : GoodIn wsL_law wsL_seeAlsosOf := goodIn_ca (goodIn_r _ [391, 70, 392, 393, 394, 2, 395, 76, 77, 78, 79, 80, 81, 82, 83, 84, 85, 24, 396, 397, 398, 399, 19, 234, 235, 236, 237, 238, 239, 240, 672, 673, 674, 675, 676, 677, 678, 679, 680] (by decide +kernel) (by decide +kernel)) (goodIn_sub (fun _ h => List.mem_append_left _ (List.mem_append_right _ h)) (by decide +kernel))
set_option maxRecDepth 20000 in
theorem gL_law_L_seeAlsosOf : GoodIn wsL_law (va_wsS RL 147 yL_seeAlsosOf wsL_seeAlsosOf) := goodIn_app (goodIn_of _ (by decide +kernel)) ggL_law_L_seeAlsosOf
set_option maxRecDepth 20000 in
theorem ggL_law_X2_seeAlsosOf : GoodIn wsL_law wsX2_seeAlsosOf := goodIn_r _ [403, 57, 41, 144, 145, 146, 5, 147, 58, 148, 149, 150, 245, 235, 236, 237, 238, 239, 240, 59, 60, 61, 62, 681, 682, 683, 684, 685, 686] (by decide +kernel) (by decide +kernel)
set_option maxRecDepth 20000 in
theorem gL_law_X2_seeAlsosOf : GoodIn wsL_law (wsV RL 149 RX2 yX2_seeAlsosOf wsX2_seeAlsosOf) := goodIn_app (goodIn_of _ (by decide +kernel)) ggL_law_X2_seeAlsosOf
set_option maxRecDepth 20000 in
theorem ggL_law_L_isOn : GoodIn wsL_law wsL_isOn := goodIn_ca (goodIn_ca (goodIn_r _ [406, 70, 71, 407, 408, 409, 2, 410, 76, 77, 78, 79, 80, 81, 82, 83, 84, 85, 24, 268, 269, 270, 271, 90, 91, 25, 96, 97, 98, 99, 14, 23, 276, 277, 278, 16, 279, 32, 30, 31, 672, 673, 674, 675, 676, 677, 678, 679, 680, 687, 688, 689] (by decide +kernel) (by decide +kernel)) (goodIn_sub (fun _ h => List.mem_append_left _ (List.mem_append_right _ h)) (by decide +kernel))) (goodIn_sub (fun _ h => List.mem_append_right _ h) (by decide +kernel))
set_option maxRecDepth 20000 in
theorem gL_law_L_isOn : GoodIn wsL_law (va_wsS RL 150 yL_isOn wsL_isOn) := goodIn_app (goodIn_of _ (by decide +kernel)) ggL_law_L_isOn
set_option maxRecDepth 20000 in
theorem ggL_law_X2_isOn : GoodIn wsL_law wsX2_isOn := goodIn_r _ [414, 57, 144, 145, 146, 5, 147, 58, 148, 149, 150, 415, 416, 417, 418, 288, 289, 290, 291, 37, 159, 160, 161, 162, 39, 681, 682, 683, 684, 685, 686] (by decide +kernel) (by decide +kernel)
set_option maxRecDepth 20000 in
theorem gL_law_X2_isOn : GoodIn wsL_law (wsV RL 152 RX2 yX2_isOn wsX2_isOn) := goodIn_app (goodIn_of _ (by decide +kernel)) ggL_law_X2_isOn
set_option maxRecDepth 20000 in
theorem ggL_law_L_headingsOn : GoodIn wsL_law wsL_headingsOn := goodIn_ca (goodIn_r _ [421, 71, 422, 423, 424, 2, 425, 268, 269, 270, 271, 90, 91, 25, 272, 273, 274, 275, 24, 96, 97, 98, 99, 14, 23, 82, 83, 84, 85, 276, 277, 278, 16, 279, 32, 30, 31, 672, 673, 674, 675, 676, 677, 678, 679, 680, 687, 688, 689] (by decide +kernel) (by decide +kernel)) (goodIn_sub (fun _ h => List.mem_append_right _ h) (by decide +kernel))
set_option maxRecDepth 20000 in
theorem gL_law_L_headingsOn : GoodIn wsL_law (va_wsS RL 153 yL_headingsOn wsL_headingsOn) := goodIn_app (goodIn_of _ (by decide +kernel)) ggL_law_L_headingsOn
set_option maxRecDepth 20000 in
theorem ggL_law_X2_headingsOn : GoodIn wsL_law wsX2_headingsOn := goodIn_r _ [429, 57, 288, 289, 290, 5, 291, 37, 148, 149, 150, 292, 293, 294, 295, 58, 159, 160, 161, 162, 39, 59, 60, 61, 62, 681, 682, 683, 684, 685, 686] (by decide +kernel) (by decide +kernel)
set_option maxRecDepth 20000 in
theorem gL_law_X2_headingsOn : GoodIn wsL_law (wsV RL 155 RX2 yX2_headingsOn wsX2_headingsOn) := goodIn_app (goodIn_of _ (by decide +kernel)) ggL_law_X2_headingsOn
set_option maxRecDepth 20000 in
theorem ggL_law_X1_barePages : GoodIn wsL_law wsX1_barePages := goodIn_r _ [433, 25, 20, 434, 435, 436, 2, 437, 24, 96, 97, 98, 99, 14, 23, 82, 83, 84, 85, 438, 439, 440, 441, 128, 129, 130, 16, 131, 32, 338, 117, 118, 119, 30, 442, 443, 444, 445, 358, 121, 122, 123, 31, 672, 673, 674, 675, 676, 677, 678, 679, 680, 687, 688, 689] (by decide +kernel) (by decide +kernel)
set_option maxRecDepth 20000 in
theorem gL_law_X1_barePages : GoodIn wsL_law (wsV RL 156 RX1 yX1_barePages wsX1_barePages) := goodIn_app (goodIn_of _ (by decide +kernel)) ggL_law_X1_barePages
set_option maxRecDepth 20000 in
theorem ggL_law_X2_barePages : GoodIn wsL_law wsX2_barePages := goodIn_r _ [449, 450, 451, 452, 5, 453, 37, 292, 293, 294, 295, 58, 159, 160, 161, 162, 39, 304, 305, 306, 307, 57, 681, 682, 683, 684, 685, 686] (by decide +kernel) (by decide +kernel)
set_option maxRecDepth 20000 in
theorem gL_law_X2_barePages : GoodIn wsL_law (wsV RL 159 RX2 yX2_barePages wsX2_barePages) := goodIn_app (goodIn_of _ (by decide +kernel)) ggL_law_X2_barePages
set_option maxRecDepth 20000 in
theorem ggL_law_X1_fullestPage : GoodIn wsL_law wsX1_fullestPage := goodIn_r _ [457, 25, 20, 434, 435, 436, 2, 437, 24, 96, 97, 98, 99, 14, 23, 82, 83, 84, 85, 438, 439, 440, 441, 128, 129, 130, 16, 131, 32, 338, 117, 118, 119, 30, 442, 443, 444, 445, 358, 121, 122, 123, 31, 672, 673, 674, 675, 676, 677, 678, 679, 680, 687, 688, 689] (by decide +kernel) (by decide +kernel)
set_option maxRecDepth 20000 in
theorem gL_law_X1_fullestPage : GoodIn wsL_law (wsV RL 160 RX1 yX1_fullestPage wsX1_fullestPage) := goodIn_app (goodIn_of _ (by decide +kernel)) ggL_law_X1_fullestPage
set_option maxRecDepth 20000 in
theorem ggL_law_X2_fullestPage : GoodIn wsL_law wsX2_fullestPage := goodIn_r _ [461, 462, 463, 464, 5, 465, 37, 292, 293, 294, 295, 58, 159, 160, 161, 162, 39, 304, 305, 306, 307, 57, 681, 682, 683, 684, 685, 686] (by decide +kernel) (by decide +kernel)
set_option maxRecDepth 20000 in
theorem gL_law_X2_fullestPage : GoodIn wsL_law (wsV RL 163 RX2 yX2_fullestPage wsX2_fullestPage) := goodIn_app (goodIn_of _ (by decide +kernel)) ggL_law_X2_fullestPage
set_option maxRecDepth 20000 in
theorem ggL_law_L_leadsTo : GoodIn wsL_law wsL_leadsTo := goodIn_ca (goodIn_r _ [468, 70, 469, 470, 471, 2, 472, 76, 77, 78, 79, 80, 81, 82, 83, 84, 85, 24, 473, 474, 475, 476, 92, 93, 94, 95, 18, 672, 673, 674, 675, 676, 677, 678, 679, 680] (by decide +kernel) (by decide +kernel)) (goodIn_sub (fun _ h => List.mem_append_left _ (List.mem_append_right _ h)) (by decide +kernel))
set_option maxRecDepth 20000 in
theorem gL_law_L_leadsTo : GoodIn wsL_law (va_wsS RL 164 yL_leadsTo wsL_leadsTo) := goodIn_app (goodIn_of _ (by decide +kernel)) ggL_law_L_leadsTo
set_option maxRecDepth 20000 in
theorem ggL_law_X2_leadsTo : GoodIn wsL_law wsX2_leadsTo := goodIn_r _ [480, 57, 144, 145, 146, 5, 147, 58, 148, 149, 150, 481, 482, 483, 484, 40, 59, 60, 61, 62, 681, 682, 683, 684, 685, 686] (by decide +kernel) (by decide +kernel)
set_option maxRecDepth 20000 in
theorem gL_law_X2_leadsTo : GoodIn wsL_law (wsV RL 166 RX2 yX2_leadsTo wsX2_leadsTo) := goodIn_app (goodIn_of _ (by decide +kernel)) ggL_law_X2_leadsTo
set_option maxRecDepth 20000 in
theorem ggL_law_X1_vainSees : GoodIn wsL_law wsX1_vainSees := goodIn_r _ [488, 24, 92, 93, 94, 2, 95, 18, 82, 83, 84, 85, 473, 474, 475, 476, 489, 490, 491, 492, 96, 97, 98, 99, 14, 23, 128, 129, 130, 16, 131, 32, 672, 673, 674, 675, 676, 677, 678, 679, 680, 687, 688, 689] (by decide +kernel) (by decide +kernel)
set_option maxRecDepth 20000 in
theorem gL_law_X1_vainSees : GoodIn wsL_law (wsV RL 167 RX1 yX1_vainSees wsX1_vainSees) := goodIn_app (goodIn_of _ (by decide +kernel)) ggL_law_X1_vainSees
set_option maxRecDepth 20000 in
theorem ggL_law_X2_vainSees : GoodIn wsL_law wsX2_vainSees := goodIn_r _ [496, 497, 498, 499, 5, 500, 58, 40, 481, 482, 483, 484, 201, 202, 203, 204, 37, 159, 160, 161, 162, 39, 304, 305, 306, 307, 57, 681, 682, 683, 684, 685, 686] (by decide +kernel) (by decide +kernel)
set_option maxRecDepth 20000 in
theorem gL_law_X2_vainSees : GoodIn wsL_law (wsV RL 170 RX2 yX2_vainSees wsX2_vainSees) := goodIn_app (goodIn_of _ (by decide +kernel)) ggL_law_X2_vainSees
set_option maxRecDepth 20000 in
theorem ggL_law_L_steps : GoodIn wsL_law wsL_steps := goodIn_ca (goodIn_r _ [503, 70, 504, 505, 506, 2, 507, 76, 77, 78, 79, 80, 81, 82, 83, 84, 85, 24, 231, 232, 233, 508, 509, 510, 511, 19, 18, 672, 673, 674, 675, 676, 677, 678, 679, 680] (by decide +kernel) (by decide +kernel)) (goodIn_sub (fun _ h => List.mem_append_left _ (List.mem_append_right _ h)) (by decide +kernel))
set_option maxRecDepth 20000 in
theorem gL_law_L_steps : GoodIn wsL_law (va_wsS RL 171 yL_steps wsL_steps) := goodIn_app (goodIn_of _ (by decide +kernel)) ggL_law_L_steps
set_option maxRecDepth 20000 in
theorem ggL_law_X2_steps : GoodIn wsL_law wsX2_steps := goodIn_r _ [515, 57, 144, 145, 146, 5, 147, 58, 148, 149, 150, 516, 517, 518, 519, 520, 521, 522, 523, 41, 40, 59, 60, 61, 62, 681, 682, 683, 684, 685, 686] (by decide +kernel) (by decide +kernel)
set_option maxRecDepth 20000 in
theorem gL_law_X2_steps : GoodIn wsL_law (wsV RL 173 RX2 yX2_steps wsX2_steps) := goodIn_app (goodIn_of _ (by decide +kernel)) ggL_law_X2_steps
set_option maxRecDepth 20000 in
theorem ggL_law_L_reachOf : GoodIn wsL_law wsL_reachOf := goodIn_ca (goodIn_r _ [526, 70, 527, 528, 529, 2, 530, 76, 77, 78, 79, 80, 81, 82, 83, 84, 85, 24, 531, 532, 533, 534, 231, 232, 233, 535, 536, 537, 538, 508, 509, 510, 511, 19, 18, 234, 235, 236, 237, 238, 239, 240, 672, 673, 674, 675, 676, 677, 678, 679, 680] (by decide +kernel) (by decide +kernel)) (goodIn_sub (fun _ h => List.mem_append_left _ (List.mem_append_right _ h)) (by decide +kernel))
set_option maxRecDepth 20000 in
theorem gL_law_L_reachOf : GoodIn wsL_law (va_wsS RL 174 yL_reachOf wsL_reachOf) := goodIn_app (goodIn_of _ (by decide +kernel)) ggL_law_L_reachOf
set_option maxRecDepth 20000 in
theorem ggL_law_X2_reachOf : GoodIn wsL_law wsX2_reachOf := goodIn_r _ [542, 57, 144, 145, 146, 5, 147, 58, 148, 149, 150, 543, 544, 545, 546, 520, 521, 522, 523, 41, 40, 245, 235, 236, 237, 238, 239, 240, 59, 60, 61, 62, 681, 682, 683, 684, 685, 686] (by decide +kernel) (by decide +kernel)
set_option maxRecDepth 20000 in
theorem gL_law_X2_reachOf : GoodIn wsL_law (wsV RL 176 RX2 yX2_reachOf wsX2_reachOf) := goodIn_app (goodIn_of _ (by decide +kernel)) ggL_law_X2_reachOf
set_option maxRecDepth 20000 in
theorem ggL_law_L_isInRing : GoodIn wsL_law wsL_isInRing := goodIn_ca (goodIn_r _ [549, 70, 550, 551, 552, 2, 553, 76, 77, 78, 79, 80, 81, 82, 83, 84, 85, 24, 554, 555, 556, 557, 231, 232, 233, 508, 509, 510, 511, 19, 18, 535, 536, 537, 538, 672, 673, 674, 675, 676, 677, 678, 679, 680] (by decide +kernel) (by decide +kernel)) (goodIn_sub (fun _ h => List.mem_append_left _ (List.mem_append_right _ h)) (by decide +kernel))
set_option maxRecDepth 20000 in
theorem gL_law_L_isInRing : GoodIn wsL_law (va_wsS RL 177 yL_isInRing wsL_isInRing) := goodIn_app (goodIn_of _ (by decide +kernel)) ggL_law_L_isInRing
set_option maxRecDepth 20000 in
theorem ggL_law_X2_isInRing : GoodIn wsL_law wsX2_isInRing := goodIn_r _ [561, 57, 144, 145, 146, 5, 147, 58, 148, 149, 150, 562, 563, 564, 565, 520, 521, 522, 523, 41, 40, 543, 544, 545, 546, 415, 416, 417, 418, 681, 682, 683, 684, 685, 686] (by decide +kernel) (by decide +kernel)
set_option maxRecDepth 20000 in
theorem gL_law_X2_isInRing : GoodIn wsL_law (wsV RL 179 RX2 yX2_isInRing wsX2_isInRing) := goodIn_app (goodIn_of _ (by decide +kernel)) ggL_law_X2_isInRing
set_option maxRecDepth 20000 in
theorem ggL_law_X1_unled : GoodIn wsL_law wsX1_unled := goodIn_r _ [569, 24, 508, 509, 510, 2, 511, 19, 18, 231, 232, 233, 234, 235, 236, 237, 238, 239, 240, 672, 673, 674, 675, 676, 677, 678, 679, 680] (by decide +kernel) (by decide +kernel)
set_option maxRecDepth 20000 in
theorem gL_law_X1_unled : GoodIn wsL_law (wsV RL 180 RX1 yX1_unled wsX1_unled) := goodIn_app (goodIn_of _ (by decide +kernel)) ggL_law_X1_unled
set_option maxRecDepth 20000 in
theorem ggL_law_X2_unled : GoodIn wsL_law wsX2_unled := goodIn_r _ [573, 574, 575, 576, 5, 577, 58, 520, 521, 522, 523, 41, 40, 245, 235, 236, 237, 238, 239, 240, 304, 305, 306, 307, 57, 681, 682, 683, 684, 685, 686] (by decide +kernel) (by decide +kernel)
set_option maxRecDepth 20000 in
theorem gL_law_X2_unled : GoodIn wsL_law (wsV RL 183 RX2 yX2_unled wsX2_unled) := goodIn_app (goodIn_of _ (by decide +kernel)) ggL_law_X2_unled
set_option maxRecDepth 20000 in
theorem ggL_law_L_spansWithGap : GoodIn wsL_law wsL_spansWithGap := goodIn_ca (goodIn_ca (goodIn_r _ [580, 70, 71, 581, 582, 583, 2, 584, 90, 91, 22, 76, 77, 78, 79, 80, 81, 82, 83, 84, 85, 24, 96, 97, 98, 99, 14, 23, 585, 137, 138, 16, 139, 32, 30, 31, 104, 105, 106, 107, 108, 109, 110, 111, 128, 129, 130, 131, 672, 673, 674, 675, 676, 677, 678, 679, 680, 687, 688, 689] (by decide +kernel) (by decide +kernel)) (goodIn_sub (fun _ h => List.mem_append_right _ h) (by decide +kernel))) (goodIn_sub (fun _ h => List.mem_append_left _ (List.mem_append_right _ h)) (by decide +kernel))
set_option maxRecDepth 20000 in
theorem gL_law_L_spansWithGap : GoodIn wsL_law (va_wsS RL 184 yL_spansWithGap wsL_spansWithGap) := goodIn_app (goodIn_of _ (by decide +kernel)) ggL_law_L_spansWithGap
set_option maxRecDepth 20000 in
theorem ggL_law_X2_spansWithGap : GoodIn wsL_law wsX2_spansWithGap := goodIn_r _ [589, 57, 144, 145, 146, 5, 147, 58, 148, 149, 150, 59, 60, 61, 62, 171, 172, 173, 174, 37, 159, 160, 161, 162, 39, 681, 682, 683, 684, 685, 686] (by decide +kernel) (by decide +kernel)
set_option maxRecDepth 20000 in
theorem gL_law_X2_spansWithGap : GoodIn wsL_law (wsV RL 186 RX2 yX2_spansWithGap wsX2_spansWithGap) := goodIn_app (goodIn_of _ (by decide +kernel)) ggL_law_X2_spansWithGap
set_option maxRecDepth 20000 in
theorem ggL_law_L_commonPages : GoodIn wsL_law wsL_commonPages := goodIn_ca (goodIn_r _ [592, 70, 593, 594, 595, 2, 596, 76, 77, 78, 79, 80, 81, 82, 83, 84, 85, 24, 96, 97, 98, 99, 14, 23, 597, 598, 599, 16, 600, 32, 30, 108, 109, 110, 111, 31, 186, 187, 188, 672, 673, 674, 675, 676, 677, 678, 679, 680, 687, 688, 689] (by decide +kernel) (by decide +kernel)) (goodIn_sub (fun _ h => List.mem_append_left _ (List.mem_append_right _ h)) (by decide +kernel))
set_option maxRecDepth 20000 in
theorem gL_law_L_commonPages : GoodIn wsL_law (va_wsS RL 187 yL_commonPages wsL_commonPages) := goodIn_app (goodIn_of _ (by decide +kernel)) ggL_law_L_commonPages
set_option maxRecDepth 20000 in
theorem ggL_law_X2_commonPages : GoodIn wsL_law wsX2_commonPages := goodIn_r _ [604, 57, 144, 145, 146, 5, 147, 58, 148, 149, 150, 605, 606, 607, 608, 37, 159, 160, 161, 162, 39, 59, 60, 61, 62, 681, 682, 683, 684, 685, 686] (by decide +kernel) (by decide +kernel)
set_option maxRecDepth 20000 in
theorem gL_law_X2_commonPages : GoodIn wsL_law (wsV RL 189 RX2 yX2_commonPages wsX2_commonPages) := goodIn_app (goodIn_of _ (by decide +kernel)) ggL_law_X2_commonPages
set_option maxRecDepth 20000 in
theorem ggL_law_L_nearest : GoodIn wsL_law wsL_nearest := goodIn_ca (goodIn_r _ [611, 70, 612, 613, 614, 2, 615, 76, 77, 78, 79, 80, 81, 82, 83, 84, 85, 24, 616, 617, 618, 619, 96, 97, 98, 99, 14, 23, 597, 598, 599, 16, 600, 32, 30, 108, 109, 110, 111, 31, 186, 187, 188, 672, 673, 674, 675, 676, 677, 678, 679, 680, 687, 688, 689] (by decide +kernel) (by decide +kernel)) (goodIn_sub (fun _ h => List.mem_append_left _ (List.mem_append_right _ h)) (by decide +kernel))
set_option maxRecDepth 20000 in
theorem gL_law_L_nearest : GoodIn wsL_law (va_wsS RL 190 yL_nearest wsL_nearest) := goodIn_app (goodIn_of _ (by decide +kernel)) ggL_law_L_nearest
set_option maxRecDepth 20000 in
theorem ggL_law_X2_nearest : GoodIn wsL_law wsX2_nearest := goodIn_r _ [623, 57, 144, 145, 146, 5, 147, 58, 148, 149, 150, 624, 625, 626, 627, 605, 606, 607, 608, 37, 159, 160, 161, 162, 39, 59, 60, 61, 62, 681, 682, 683, 684, 685, 686] (by decide +kernel) (by decide +kernel)
set_option maxRecDepth 20000 in
theorem gL_law_X2_nearest : GoodIn wsL_law (wsV RL 192 RX2 yX2_nearest wsX2_nearest) := goodIn_app (goodIn_of _ (by decide +kernel)) ggL_law_X2_nearest
set_option maxRecDepth 20000 in
theorem ggL_law_L_spansTogether : GoodIn wsL_law wsL_spansTogether := goodIn_ca (goodIn_r _ [630, 70, 631, 632, 633, 2, 634, 22, 76, 77, 78, 79, 80, 81, 82, 83, 84, 85, 24, 96, 97, 98, 99, 14, 23, 112, 113, 114, 16, 115, 32, 30, 116, 117, 118, 119, 120, 121, 122, 123, 31, 104, 105, 106, 107, 108, 109, 110, 111, 128, 129, 130, 131, 672, 673, 674, 675, 676, 677, 678, 679, 680, 687, 688, 689] (by decide +kernel) (by decide +kernel)) (goodIn_sub (fun _ h => List.mem_append_left _ (List.mem_append_right _ h)) (by decide +kernel))
set_option maxRecDepth 20000 in
theorem gL_law_L_spansTogether : GoodIn wsL_law (va_wsS RL 193 yL_spansTogether wsL_spansTogether) := goodIn_app (goodIn_of _ (by decide +kernel)) ggL_law_L_spansTogether
set_option maxRecDepth 20000 in
theorem ggL_law_X2_spansTogether : GoodIn wsL_law wsX2_spansTogether := goodIn_r _ [638, 57, 144, 145, 146, 5, 147, 58, 148, 149, 150, 171, 172, 173, 174, 37, 159, 160, 161, 162, 39, 59, 60, 61, 62, 681, 682, 683, 684, 685, 686] (by decide +kernel) (by decide +kernel)
set_option maxRecDepth 20000 in
theorem gL_law_X2_spansTogether : GoodIn wsL_law (wsV RL 195 RX2 yX2_spansTogether wsX2_spansTogether) := goodIn_app (goodIn_of _ (by decide +kernel)) ggL_law_X2_spansTogether
set_option maxRecDepth 20000 in
theorem ggL_law_X1_meanPages : GoodIn wsL_law wsX1_meanPages := goodIn_r _ [642, 24, 96, 97, 98, 2, 99, 14, 23, 82, 83, 84, 85, 193, 194, 195, 16, 196, 32, 31, 30, 672, 673, 674, 675, 676, 677, 678, 679, 680, 687, 688, 689] (by decide +kernel) (by decide +kernel)
set_option maxRecDepth 20000 in
theorem gL_law_X1_meanPages : GoodIn wsL_law (wsV RL 196 RX1 yX1_meanPages wsX1_meanPages) := goodIn_app (goodIn_of _ (by decide +kernel)) ggL_law_X1_meanPages
set_option maxRecDepth 20000 in
theorem ggL_law_X2_meanPages : GoodIn wsL_law wsX2_meanPages := goodIn_r _ [646, 57, 58, 201, 202, 203, 5, 204, 37, 159, 160, 161, 162, 39, 681, 682, 683, 684, 685, 686] (by decide +kernel) (by decide +kernel)
set_option maxRecDepth 20000 in
theorem gL_law_X2_meanPages : GoodIn wsL_law (wsV RL 200 RX2 yX2_meanPages wsX2_meanPages) := goodIn_app (goodIn_of _ (by decide +kernel)) ggL_law_X2_meanPages
set_option maxRecDepth 20000 in
theorem ggL_law_X1_digest : GoodIn wsL_law wsX1_digest := goodIn_r _ [650, 651, 24, 652, 297, 298, 2, 299, 25, 653, 654, 655, 656, 657, 309, 310, 311, 658, 431, 432, 433, 20, 434, 435, 436, 437, 96, 97, 98, 99, 14, 23, 82, 83, 84, 85, 438, 439, 440, 441, 128, 129, 130, 16, 131, 32, 338, 117, 118, 119, 30, 442, 443, 444, 445, 358, 121, 122, 123, 31, 659, 455, 456, 457, 660, 486, 487, 488, 92, 93, 94, 95, 18, 473, 474, 475, 476, 489, 490, 491, 492, 661, 567, 568, 569, 508, 509, 510, 511, 19, 231, 232, 233, 234, 235, 236, 237, 238, 239, 240, 662, 663, 664, 665, 193, 194, 195, 196, 396, 397, 398, 399, 531, 532, 533, 534, 535, 536, 537, 538, 554, 555, 556, 557, 616, 617, 618, 619, 597, 598, 599, 600, 108, 109, 110, 111, 186, 187, 188, 672, 673, 674, 675, 676, 677, 678, 679, 680, 687, 688, 689] (by decide +kernel) (by decide +kernel)
set_option maxRecDepth 20000 in
theorem gL_law_X1_digest : GoodIn wsL_law (wsV RL 201 RX1 yX1_digest wsX1_digest) := goodIn_app (goodIn_of _ (by decide +kernel)) ggL_law_X1_digest
set_option maxRecDepth 20000 in
theorem ggL_law_X2_digest : GoodIn wsL_law wsX2_digest := goodIn_r _ [669, 57, 17, 37, 58, 670, 671, 40, 41, 450, 451, 452, 5, 453, 292, 293, 294, 295, 159, 160, 161, 162, 39, 462, 463, 464, 465, 497, 498, 499, 500, 481, 482, 483, 484, 201, 202, 203, 204, 574, 575, 576, 577, 520, 521, 522, 523, 245, 235, 236, 237, 238, 239, 240, 171, 172, 173, 174, 543, 544, 545, 546, 562, 563, 564, 565, 624, 625, 626, 627, 605, 606, 607, 608, 347, 348, 349, 350, 363, 364, 365, 366, 681, 682, 683, 684, 685, 686] (by decide +kernel) (by decide +kernel)
set_option maxRecDepth 20000 in
theorem gL_law_X2_digest : GoodIn wsL_law (wsV RL 205 RX2 yX2_digest wsX2_digest) := goodIn_app (goodIn_of _ (by decide +kernel)) ggL_law_X2_digest
