/-! THE LAW'S WORDS: build, law -/
set_option maxRecDepth 20000 in
theorem ggL_build_X2_init : GoodIn wsL_build wsX2_init := goodIn_r _ [5, 6, 7, 8, 9, 10, 11, 12, 13, 14, 15, 236, 237, 238, 239] (by decide +kernel) (by decide +kernel)
set_option maxRecDepth 20000 in
theorem gL_build_X2_init_n96 : GoodIn wsL_build (wsX2_init) := ggL_build_X2_init
set_option maxRecDepth 20000 in
theorem ggL_build_L_cell : GoodIn wsL_build wsL_cell := goodIn_r _ [19, 20] (by decide +kernel) (by decide +kernel)
set_option maxRecDepth 20000 in
theorem gL_build_L_cell : GoodIn wsL_build (va_wsS RL 97 yL_cell wsL_cell) := goodIn_app (goodIn_of _ (by decide +kernel)) ggL_build_L_cell
set_option maxRecDepth 20000 in
theorem ggL_build_L_below : GoodIn wsL_build wsL_below := goodIn_r _ [23, 24] (by decide +kernel) (by decide +kernel)
set_option maxRecDepth 20000 in
theorem gL_build_L_below : GoodIn wsL_build (va_wsS RL 15 yL_below wsL_below) := goodIn_app (goodIn_of _ (by decide +kernel)) ggL_build_L_below
set_option maxRecDepth 20000 in
theorem ggL_build_X2_addHeading : GoodIn wsL_build wsX2_addHeading := goodIn_r _ [28, 11, 10, 14, 13, 15, 12, 29, 30, 3, 31, 32, 33, 34, 236, 237, 238, 239] (by decide +kernel) (by decide +kernel)
set_option maxRecDepth 20000 in
theorem gL_build_X2_addHeading : GoodIn wsL_build (wsV RL 21 RX2 yX2_addHeading wsX2_addHeading) := goodIn_app (goodIn_of _ (by decide +kernel)) ggL_build_X2_addHeading
set_option maxRecDepth 20000 in
theorem ggL_build_X1_addHeading : GoodIn wsL_build wsX1_addHeading := goodIn_ca (goodIn_r _ [39, 40, 41, 42, 43, 240, 241, 242, 243, 244, 245, 246, 247, 248] (by decide +kernel) (by decide +kernel)) (goodIn_sub (fun _ h => List.mem_cons_of_mem _ (List.mem_append_left _ (List.mem_append_left _ (List.mem_append_right _ h)))) (by decide +kernel))
set_option maxRecDepth 20000 in
theorem gL_build_X1_addHeading : GoodIn wsL_build (wsV RL 24 RX1 yX1_addHeading wsX1_addHeading) := goodIn_app (goodIn_of _ (by decide +kernel)) ggL_build_X1_addHeading
set_option maxRecDepth 20000 in
theorem ggL_law_X1_init : GoodIn wsL_law wsX1_init := goodIn_r _ [15, 16, 17, 18, 19, 20, 21, 22, 11, 23, 24, 25, 26, 27, 28, 29, 30, 31, 32, 33, 34, 35, 36, 37, 445, 446, 447, 448, 449, 450, 451, 452, 453, 458, 459, 460] (by decide +kernel) (by decide +kernel)
set_option maxRecDepth 20000 in
theorem gL_law_X1_init : GoodIn wsL_law (wsX1_init) := ggL_law_X1_init
set_option maxRecDepth 20000 in
theorem ggL_law_L_cell : GoodIn wsL_law wsL_cell := goodIn_r _ [56, 57] (by decide +kernel) (by decide +kernel)
set_option maxRecDepth 20000 in
theorem gL_law_L_cell : GoodIn wsL_law (va_wsS RL 97 yL_cell wsL_cell) := goodIn_app (goodIn_of _ (by decide +kernel)) ggL_law_L_cell
set_option maxRecDepth 20000 in
theorem ggL_law_X1_digest : GoodIn wsL_law wsX1_digest := goodIn_r _ [255, 256, 29, 257, 258, 259, 2, 260, 30, 261, 262, 263, 264, 265, 266, 267, 268, 269, 270, 271, 272, 25, 273, 274, 275, 276, 114, 115, 116, 117, 20, 28, 100, 101, 102, 103, 277, 278, 279, 280, 143, 144, 145, 22, 146, 37, 281, 132, 133, 134, 35, 282, 283, 284, 285, 286, 136, 137, 138, 36, 287, 288, 289, 290, 291, 292, 293, 294, 110, 111, 112, 113, 23, 295, 296, 297, 298, 299, 300, 301, 302, 303, 304, 305, 306, 307, 308, 309, 310, 24, 196, 197, 198, 199, 200, 201, 202, 203, 204, 205, 311, 312, 313, 314, 175, 176, 177, 178, 315, 316, 317, 318, 319, 320, 321, 322, 323, 324, 325, 326, 327, 328, 329, 330, 331, 332, 333, 334, 335, 336, 337, 338, 126, 4, 5, 6, 170, 8, 9, 445, 446, 447, 448, 449, 450, 451, 452, 453, 458, 459, 460] (by decide +kernel) (by decide +kernel)
set_option maxRecDepth 20000 in
theorem gL_law_X1_digest : GoodIn wsL_law (wsV RL 110 RX1 yX1_digest wsX1_digest) := goodIn_app (goodIn_of _ (by decide +kernel)) ggL_law_X1_digest
set_option maxRecDepth 20000 in
theorem ggL_law_X1_headings : GoodIn wsL_law wsX1_headings := goodIn_r _ [268, 29, 445, 446, 447, 448, 449, 450, 451, 452, 453] (by decide +kernel) (by decide +kernel)
set_option maxRecDepth 20000 in
theorem gL_law_X1_headings : GoodIn wsL_law (wsV RL 114 RX1 yX1_headings wsX1_headings) := goodIn_app (goodIn_of _ (by decide +kernel)) ggL_law_X1_headings
set_option maxRecDepth 20000 in
theorem ggL_law_X1_bookPages : GoodIn wsL_law wsX1_bookPages := goodIn_r _ [260, 30, 445, 446, 447, 448, 449, 450, 451, 452, 453] (by decide +kernel) (by decide +kernel)
set_option maxRecDepth 20000 in
theorem gL_law_X1_bookPages : GoodIn wsL_law (wsV RL 117 RX1 yX1_bookPages wsX1_bookPages) := goodIn_app (goodIn_of _ (by decide +kernel)) ggL_law_X1_bookPages
set_option maxRecDepth 20000 in
theorem ggL_law_X1_spansOf : GoodIn wsL_law wsX1_spansOf := goodIn_ca (goodIn_r _ [344, 94, 95, 96, 2, 97, 98, 99, 100, 101, 102, 103, 29, 114, 115, 116, 117, 20, 28, 143, 144, 145, 22, 146, 37, 445, 446, 447, 448, 449, 450, 451, 452, 453, 458, 459, 460] (by decide +kernel) (by decide +kernel)) (goodIn_sub (fun _ h => List.mem_append_left _ (List.mem_append_right _ h)) (by decide +kernel))
set_option maxRecDepth 20000 in
theorem gL_law_X1_spansOf : GoodIn wsL_law (wsV RL 120 RX1 yX1_spansOf wsX1_spansOf) := goodIn_app (goodIn_of _ (by decide +kernel)) ggL_law_X1_spansOf
set_option maxRecDepth 20000 in
theorem ggL_law_X1_startOf : GoodIn wsL_law wsX1_startOf := goodIn_ca (goodIn_r _ [348, 94, 95, 96, 2, 97, 98, 99, 100, 101, 102, 103, 29, 349, 350, 351, 352, 114, 115, 116, 117, 20, 28, 143, 144, 145, 22, 146, 37, 281, 132, 133, 134, 35, 445, 446, 447, 448, 449, 450, 451, 452, 453, 458, 459, 460] (by decide +kernel) (by decide +kernel)) (goodIn_sub (fun _ h => List.mem_append_left _ (List.mem_append_right _ h)) (by decide +kernel))
set_option maxRecDepth 20000 in
theorem gL_law_X1_startOf : GoodIn wsL_law (wsV RL 123 RX1 yX1_startOf wsX1_startOf) := goodIn_app (goodIn_of _ (by decide +kernel)) ggL_law_X1_startOf
set_option maxRecDepth 20000 in
theorem ggL_law_X1_endOf : GoodIn wsL_law wsX1_endOf := goodIn_ca (goodIn_r _ [356, 94, 95, 96, 2, 97, 98, 99, 100, 101, 102, 103, 29, 349, 350, 351, 352, 114, 115, 116, 117, 20, 28, 143, 144, 145, 22, 146, 37, 286, 136, 137, 138, 36, 445, 446, 447, 448, 449, 450, 451, 452, 453, 458, 459, 460] (by decide +kernel) (by decide +kernel)) (goodIn_sub (fun _ h => List.mem_append_left _ (List.mem_append_right _ h)) (by decide +kernel))
set_option maxRecDepth 20000 in
theorem gL_law_X1_endOf : GoodIn wsL_law (wsV RL 126 RX1 yX1_endOf wsX1_endOf) := goodIn_app (goodIn_of _ (by decide +kernel)) ggL_law_X1_endOf
set_option maxRecDepth 20000 in
theorem ggL_law_X1_isOn : GoodIn wsL_law wsX1_isOn := goodIn_ca (goodIn_ca (goodIn_r _ [360, 94, 95, 96, 2, 97, 98, 99, 100, 101, 102, 103, 29, 236, 237, 238, 239, 108, 109, 30, 114, 115, 116, 117, 20, 28, 244, 245, 246, 22, 247, 37, 35, 36, 445, 446, 447, 448, 449, 450, 451, 452, 453, 458, 459, 460] (by decide +kernel) (by decide +kernel)) (goodIn_sub (fun _ h => List.mem_append_left _ (List.mem_append_right _ h)) (by decide +kernel))) (goodIn_sub (fun _ h => List.mem_append_right _ h) (by decide +kernel))
set_option maxRecDepth 20000 in
theorem gL_law_X1_isOn : GoodIn wsL_law (wsV RL 129 RX1 yX1_isOn wsX1_isOn) := goodIn_app (goodIn_of _ (by decide +kernel)) ggL_law_X1_isOn
set_option maxRecDepth 20000 in
theorem ggL_law_X1_pagesOf : GoodIn wsL_law wsX1_pagesOf := goodIn_ca (goodIn_r _ [364, 94, 95, 96, 2, 97, 98, 99, 100, 101, 102, 103, 29, 114, 115, 116, 117, 20, 28, 175, 176, 177, 22, 178, 37, 36, 35, 445, 446, 447, 448, 449, 450, 451, 452, 453, 458, 459, 460] (by decide +kernel) (by decide +kernel)) (goodIn_sub (fun _ h => List.mem_append_left _ (List.mem_append_right _ h)) (by decide +kernel))
set_option maxRecDepth 20000 in
theorem gL_law_X1_pagesOf : GoodIn wsL_law (wsV RL 133 RX1 yX1_pagesOf wsX1_pagesOf) := goodIn_app (goodIn_of _ (by decide +kernel)) ggL_law_X1_pagesOf
set_option maxRecDepth 20000 in
theorem ggL_law_X1_seeOf : GoodIn wsL_law wsX1_seeOf := goodIn_ca (goodIn_r _ [368, 94, 95, 96, 2, 97, 98, 99, 100, 101, 102, 103, 29, 110, 111, 112, 113, 23, 445, 446, 447, 448, 449, 450, 451, 452, 453] (by decide +kernel) (by decide +kernel)) (goodIn_sub (fun _ h => List.mem_append_left _ (List.mem_append_right _ h)) (by decide +kernel))
set_option maxRecDepth 20000 in
theorem gL_law_X1_seeOf : GoodIn wsL_law (wsV RL 135 RX1 yX1_seeOf wsX1_seeOf) := goodIn_app (goodIn_of _ (by decide +kernel)) ggL_law_X1_seeOf
set_option maxRecDepth 20000 in
theorem ggL_law_X1_seeAlsosOf : GoodIn wsL_law wsX1_seeAlsosOf := goodIn_ca (goodIn_r _ [372, 94, 95, 96, 2, 97, 98, 99, 100, 101, 102, 103, 29, 315, 316, 317, 318, 24, 199, 200, 201, 202, 203, 204, 205, 445, 446, 447, 448, 449, 450, 451, 452, 453] (by decide +kernel) (by decide +kernel)) (goodIn_sub (fun _ h => List.mem_append_left _ (List.mem_append_right _ h)) (by decide +kernel))
set_option maxRecDepth 20000 in
theorem gL_law_X1_seeAlsosOf : GoodIn wsL_law (wsV RL 138 RX1 yX1_seeAlsosOf wsX1_seeAlsosOf) := goodIn_app (goodIn_of _ (by decide +kernel)) ggL_law_X1_seeAlsosOf
set_option maxRecDepth 20000 in
theorem ggL_law_X1_spansWithGap : GoodIn wsL_law wsX1_spansWithGap := goodIn_ca (goodIn_ca (goodIn_r _ [376, 108, 109, 27, 94, 95, 96, 2, 97, 98, 99, 100, 101, 102, 103, 29, 114, 115, 116, 117, 20, 28, 377, 152, 153, 22, 154, 37, 35, 36, 122, 123, 124, 125, 126, 4, 5, 6, 143, 144, 145, 146, 445, 446, 447, 448, 449, 450, 451, 452, 453, 458, 459, 460] (by decide +kernel) (by decide +kernel)) (goodIn_sub (fun _ h => List.mem_append_right _ h) (by decide +kernel))) (goodIn_sub (fun _ h => List.mem_append_left _ (List.mem_append_right _ h)) (by decide +kernel))
set_option maxRecDepth 20000 in
theorem gL_law_X1_spansWithGap : GoodIn wsL_law (wsV RL 141 RX1 yX1_spansWithGap wsX1_spansWithGap) := goodIn_app (goodIn_of _ (by decide +kernel)) ggL_law_X1_spansWithGap
set_option maxRecDepth 20000 in
theorem ggL_law_X1_commonPages : GoodIn wsL_law wsX1_commonPages := goodIn_ca (goodIn_r _ [381, 94, 95, 96, 2, 97, 98, 99, 100, 101, 102, 103, 29, 114, 115, 116, 117, 20, 28, 335, 336, 337, 22, 338, 37, 35, 126, 4, 5, 6, 36, 170, 8, 9, 445, 446, 447, 448, 449, 450, 451, 452, 453, 458, 459, 460] (by decide +kernel) (by decide +kernel)) (goodIn_sub (fun _ h => List.mem_append_left _ (List.mem_append_right _ h)) (by decide +kernel))
set_option maxRecDepth 20000 in
theorem gL_law_X1_commonPages : GoodIn wsL_law (wsV RL 144 RX1 yX1_commonPages wsX1_commonPages) := goodIn_app (goodIn_of _ (by decide +kernel)) ggL_law_X1_commonPages
set_option maxRecDepth 20000 in
theorem ggL_law_X1_spansTogether : GoodIn wsL_law wsX1_spansTogether := goodIn_ca (goodIn_r _ [385, 27, 94, 95, 96, 2, 97, 98, 99, 100, 101, 102, 103, 29, 114, 115, 116, 117, 20, 28, 127, 128, 129, 22, 130, 37, 35, 131, 132, 133, 134, 135, 136, 137, 138, 36, 122, 123, 124, 125, 126, 4, 5, 6, 143, 144, 145, 146, 445, 446, 447, 448, 449, 450, 451, 452, 453, 458, 459, 460] (by decide +kernel) (by decide +kernel)) (goodIn_sub (fun _ h => List.mem_append_left _ (List.mem_append_right _ h)) (by decide +kernel))
set_option maxRecDepth 20000 in
theorem gL_law_X1_spansTogether : GoodIn wsL_law (wsV RL 147 RX1 yX1_spansTogether wsX1_spansTogether) := goodIn_app (goodIn_of _ (by decide +kernel)) ggL_law_X1_spansTogether
set_option maxRecDepth 20000 in
theorem ggL_law_X1_headingsOn : GoodIn wsL_law wsX1_headingsOn := goodIn_ca (goodIn_r _ [389, 236, 237, 238, 2, 239, 108, 109, 30, 240, 241, 242, 243, 29, 114, 115, 116, 117, 20, 28, 100, 101, 102, 103, 244, 245, 246, 22, 247, 37, 35, 36, 445, 446, 447, 448, 449, 450, 451, 452, 453, 458, 459, 460] (by decide +kernel) (by decide +kernel)) (goodIn_sub (fun _ h => List.mem_append_right _ h) (by decide +kernel))
set_option maxRecDepth 20000 in
theorem gL_law_X1_headingsOn : GoodIn wsL_law (wsV RL 150 RX1 yX1_headingsOn wsX1_headingsOn) := goodIn_app (goodIn_of _ (by decide +kernel)) ggL_law_X1_headingsOn
set_option maxRecDepth 20000 in
theorem ggL_law_X1_barePages : GoodIn wsL_law wsX1_barePages := goodIn_r _ [272, 30, 25, 273, 274, 275, 2, 276, 29, 114, 115, 116, 117, 20, 28, 100, 101, 102, 103, 277, 278, 279, 280, 143, 144, 145, 22, 146, 37, 281, 132, 133, 134, 35, 282, 283, 284, 285, 286, 136, 137, 138, 36, 445, 446, 447, 448, 449, 450, 451, 452, 453, 458, 459, 460] (by decide +kernel) (by decide +kernel)
set_option maxRecDepth 20000 in
theorem gL_law_X1_barePages : GoodIn wsL_law (wsV RL 156 RX1 yX1_barePages wsX1_barePages) := goodIn_app (goodIn_of _ (by decide +kernel)) ggL_law_X1_barePages
set_option maxRecDepth 20000 in
theorem ggL_law_X1_fullestPage : GoodIn wsL_law wsX1_fullestPage := goodIn_r _ [290, 30, 25, 273, 274, 275, 2, 276, 29, 114, 115, 116, 117, 20, 28, 100, 101, 102, 103, 277, 278, 279, 280, 143, 144, 145, 22, 146, 37, 281, 132, 133, 134, 35, 282, 283, 284, 285, 286, 136, 137, 138, 36, 445, 446, 447, 448, 449, 450, 451, 452, 453, 458, 459, 460] (by decide +kernel) (by decide +kernel)
set_option maxRecDepth 20000 in
theorem gL_law_X1_fullestPage : GoodIn wsL_law (wsV RL 159 RX1 yX1_fullestPage wsX1_fullestPage) := goodIn_app (goodIn_of _ (by decide +kernel)) ggL_law_X1_fullestPage
set_option maxRecDepth 20000 in
theorem ggL_law_X1_leadsTo : GoodIn wsL_law wsX1_leadsTo := goodIn_ca (goodIn_r _ [395, 94, 95, 96, 2, 97, 98, 99, 100, 101, 102, 103, 29, 295, 296, 297, 298, 110, 111, 112, 113, 23, 445, 446, 447, 448, 449, 450, 451, 452, 453] (by decide +kernel) (by decide +kernel)) (goodIn_sub (fun _ h => List.mem_append_left _ (List.mem_append_right _ h)) (by decide +kernel))
set_option maxRecDepth 20000 in
theorem gL_law_X1_leadsTo : GoodIn wsL_law (wsV RL 162 RX1 yX1_leadsTo wsX1_leadsTo) := goodIn_app (goodIn_of _ (by decide +kernel)) ggL_law_X1_leadsTo
set_option maxRecDepth 20000 in
theorem ggL_law_X1_steps : GoodIn wsL_law wsX1_steps := goodIn_ca (goodIn_r _ [399, 94, 95, 96, 2, 97, 98, 99, 100, 101, 102, 103, 29, 196, 197, 198, 307, 308, 309, 310, 24, 23, 445, 446, 447, 448, 449, 450, 451, 452, 453] (by decide +kernel) (by decide +kernel)) (goodIn_sub (fun _ h => List.mem_append_left _ (List.mem_append_right _ h)) (by decide +kernel))
set_option maxRecDepth 20000 in
theorem gL_law_X1_steps : GoodIn wsL_law (wsV RL 165 RX1 yX1_steps wsX1_steps) := goodIn_app (goodIn_of _ (by decide +kernel)) ggL_law_X1_steps
set_option maxRecDepth 20000 in
theorem ggL_law_X1_reachOf : GoodIn wsL_law wsX1_reachOf := goodIn_ca (goodIn_r _ [403, 94, 95, 96, 2, 97, 98, 99, 100, 101, 102, 103, 29, 319, 320, 321, 322, 196, 197, 198, 323, 324, 325, 326, 307, 308, 309, 310, 24, 23, 199, 200, 201, 202, 203, 204, 205, 445, 446, 447, 448, 449, 450, 451, 452, 453] (by decide +kernel) (by decide +kernel)) (goodIn_sub (fun _ h => List.mem_append_left _ (List.mem_append_right _ h)) (by decide +kernel))
set_option maxRecDepth 20000 in
theorem gL_law_X1_reachOf : GoodIn wsL_law (wsV RL 168 RX1 yX1_reachOf wsX1_reachOf) := goodIn_app (goodIn_of _ (by decide +kernel)) ggL_law_X1_reachOf
set_option maxRecDepth 20000 in
theorem ggL_law_L_isStep : GoodIn wsL_law wsL_isStep := goodIn_r _ [406, 83, 12, 454, 455, 456, 457] (by decide +kernel) (by decide +kernel)
set_option maxRecDepth 20000 in
theorem gL_law_L_isStep : GoodIn wsL_law (va_wsS RL 171 yL_isStep wsL_isStep) := goodIn_app (goodIn_of _ (by decide +kernel)) ggL_law_L_isStep
set_option maxRecDepth 20000 in
theorem ggL_law_X1_nearest : GoodIn wsL_law wsX1_nearest := goodIn_ca (goodIn_r _ [410, 94, 95, 96, 2, 97, 98, 99, 100, 101, 102, 103, 29, 331, 332, 333, 334, 114, 115, 116, 117, 20, 28, 335, 336, 337, 22, 338, 37, 35, 126, 4, 5, 6, 36, 170, 8, 9, 445, 446, 447, 448, 449, 450, 451, 452, 453, 458, 459, 460] (by decide +kernel) (by decide +kernel)) (goodIn_sub (fun _ h => List.mem_append_left _ (List.mem_append_right _ h)) (by decide +kernel))
set_option maxRecDepth 20000 in
theorem gL_law_X1_nearest : GoodIn wsL_law (wsV RL 175 RX1 yX1_nearest wsX1_nearest) := goodIn_app (goodIn_of _ (by decide +kernel)) ggL_law_X1_nearest
set_option maxRecDepth 20000 in
theorem ggL_law_X1_isInRing : GoodIn wsL_law wsX1_isInRing := goodIn_ca (goodIn_r _ [414, 94, 95, 96, 2, 97, 98, 99, 100, 101, 102, 103, 29, 327, 328, 329, 330, 196, 197, 198, 307, 308, 309, 310, 24, 23, 323, 324, 325, 326, 445, 446, 447, 448, 449, 450, 451, 452, 453] (by decide +kernel) (by decide +kernel)) (goodIn_sub (fun _ h => List.mem_append_left _ (List.mem_append_right _ h)) (by decide +kernel))
set_option maxRecDepth 20000 in
theorem gL_law_X1_isInRing : GoodIn wsL_law (wsV RL 178 RX1 yX1_isInRing wsX1_isInRing) := goodIn_app (goodIn_of _ (by decide +kernel)) ggL_law_X1_isInRing
set_option maxRecDepth 20000 in
theorem ggL_law_X1_vainSees : GoodIn wsL_law wsX1_vainSees := goodIn_r _ [294, 29, 110, 111, 112, 2, 113, 23, 100, 101, 102, 103, 295, 296, 297, 298, 299, 300, 301, 302, 114, 115, 116, 117, 20, 28, 143, 144, 145, 22, 146, 37, 445, 446, 447, 448, 449, 450, 451, 452, 453, 458, 459, 460] (by decide +kernel) (by decide +kernel)
set_option maxRecDepth 20000 in
theorem gL_law_X1_vainSees : GoodIn wsL_law (wsV RL 182 RX1 yX1_vainSees wsX1_vainSees) := goodIn_app (goodIn_of _ (by decide +kernel)) ggL_law_X1_vainSees
set_option maxRecDepth 20000 in
theorem ggL_law_X1_unled : GoodIn wsL_law wsX1_unled := goodIn_r _ [306, 29, 307, 308, 309, 2, 310, 24, 23, 196, 197, 198, 199, 200, 201, 202, 203, 204, 205, 445, 446, 447, 448, 449, 450, 451, 452, 453] (by decide +kernel) (by decide +kernel)
set_option maxRecDepth 20000 in
theorem gL_law_X1_unled : GoodIn wsL_law (wsV RL 185 RX1 yX1_unled wsX1_unled) := goodIn_app (goodIn_of _ (by decide +kernel)) ggL_law_X1_unled
set_option maxRecDepth 20000 in
theorem ggL_law_L_below : GoodIn wsL_law wsL_below := goodIn_r _ [60, 61] (by decide +kernel) (by decide +kernel)
set_option maxRecDepth 20000 in
theorem gL_law_L_below : GoodIn wsL_law (va_wsS RL 15 yL_below wsL_below) := goodIn_app (goodIn_of _ (by decide +kernel)) ggL_law_L_below
set_option maxRecDepth 20000 in
theorem ggL_law_X1_putIn : GoodIn wsL_law wsX1_putIn := goodIn_ca (goodIn_ca (goodIn_r _ [213, 108, 109, 76, 77, 30, 29, 114, 115, 116, 2, 117, 20, 28, 100, 101, 102, 103, 214, 215, 216, 22, 217, 37, 35, 36, 445, 446, 447, 448, 449, 450, 451, 452, 453, 458, 459, 460] (by decide +kernel) (by decide +kernel)) (goodIn_sub (fun _ h => List.mem_append_right _ h) (by decide +kernel))) (goodIn_sub (fun _ h => List.mem_append_left _ (List.mem_append_left _ (List.mem_append_right _ h))) (by decide +kernel))
set_option maxRecDepth 20000 in
theorem gL_law_X1_putIn : GoodIn wsL_law (wsV RL 82 RX1 yX1_putIn wsX1_putIn) := goodIn_app (goodIn_of _ (by decide +kernel)) ggL_law_X1_putIn
set_option maxRecDepth 20000 in
theorem ggL_law_X1_takeOut : GoodIn wsL_law wsX1_takeOut := goodIn_ca (goodIn_ca (goodIn_r _ [235, 76, 77, 30, 29, 27, 236, 237, 238, 2, 239, 108, 109, 240, 241, 242, 243, 114, 115, 116, 117, 20, 28, 100, 101, 102, 103, 244, 245, 246, 22, 247, 37, 35, 36, 248, 249, 250, 251, 171, 172, 173, 174, 122, 123, 124, 125, 126, 4, 5, 6, 147, 148, 149, 150, 151, 152, 153, 154, 445, 446, 447, 448, 449, 450, 451, 452, 453, 458, 459, 460] (by decide +kernel) (by decide +kernel)) (goodIn_sub (fun _ h => List.mem_append_left _ (List.mem_append_left _ (List.mem_append_right _ h))) (by decide +kernel))) (goodIn_sub (fun _ h => List.mem_append_right _ h) (by decide +kernel))
set_option maxRecDepth 20000 in
theorem gL_law_X1_takeOut : GoodIn wsL_law (wsV RL 92 RX1 yX1_takeOut wsX1_takeOut) := goodIn_app (goodIn_of _ (by decide +kernel)) ggL_law_X1_takeOut
set_option maxRecDepth 20000 in
theorem ggL_law_X2_with : GoodIn wsL_law wsX2_with := goodIn_r _ [71, 52] (by decide +kernel) (by decide +kernel)
set_option maxRecDepth 20000 in
theorem gL_law_X2_with : GoodIn wsL_law (va_wsS RL 42 yX2_with wsX2_with) := goodIn_app (goodIn_of _ (by decide +kernel)) ggL_law_X2_with
set_option maxRecDepth 20000 in
theorem ggL_law_X2_merged : GoodIn wsL_law wsX2_merged := goodIn_r _ [87, 52, 88, 89, 4, 5, 6, 11, 69, 70, 44, 71] (by decide +kernel) (by decide +kernel)
set_option maxRecDepth 20000 in
theorem gL_law_X2_merged : GoodIn wsL_law (va_wsS RL 46 yX2_merged wsX2_merged) := goodIn_app (goodIn_of _ (by decide +kernel)) ggL_law_X2_merged
set_option maxRecDepth 20000 in
theorem ggL_law_X1_addPages : GoodIn wsL_law wsX1_addPages := goodIn_ca (goodIn_ca (goodIn_ca (goodIn_r _ [93, 76, 77, 26, 27, 94, 95, 96, 2, 97, 98, 99, 100, 101, 102, 103, 29, 104, 105, 106, 107, 108, 109, 30, 110, 111, 112, 113, 23, 114, 115, 116, 117, 20, 28, 118, 119, 120, 22, 121, 37, 122, 123, 124, 125, 36, 126, 4, 5, 6, 35, 127, 128, 129, 130, 131, 132, 133, 134, 135, 136, 137, 138, 139, 140, 141, 142, 143, 144, 145, 146, 147, 148, 149, 150, 151, 152, 153, 154, 445, 446, 447, 448, 449, 450, 451, 452, 453, 458, 459, 460] (by decide +kernel) (by decide +kernel)) (goodIn_sub (fun _ h => List.mem_append_left _ (List.mem_append_left _ (List.mem_append_right _ h))) (by decide +kernel))) (goodIn_sub (fun _ h => List.mem_append_left _ (List.mem_append_right _ h)) (by decide +kernel))) (goodIn_sub (fun _ h => List.mem_append_right _ h) (by decide +kernel))
set_option maxRecDepth 20000 in
theorem gL_law_X1_addPages : GoodIn wsL_law (wsV RL 50 RX1 yX1_addPages wsX1_addPages) := goodIn_app (goodIn_of _ (by decide +kernel)) ggL_law_X1_addPages
