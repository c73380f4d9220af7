/-! THE LAW'S WORDS: act -/
set_option maxRecDepth 20000 in
theorem ggL_act_L_below : GoodIn wsL_act wsL_below := goodIn_r _ [14, 15] (by decide +kernel) (by decide +kernel)
set_option maxRecDepth 20000 in
theorem gL_act_L_below : GoodIn wsL_act (va_wsS RL 15 yL_below wsL_below) := goodIn_app (goodIn_of _ (by decide +kernel)) ggL_act_L_below
set_option maxRecDepth 20000 in
theorem ggL_act_X2_addHeading : GoodIn wsL_act wsX2_addHeading := goodIn_r _ [20, 21, 22, 23, 24, 25, 9, 26, 27, 19, 28, 29, 30, 31, 222, 223, 224, 225] (by decide +kernel) (by decide +kernel)
set_option maxRecDepth 20000 in
theorem gL_act_X2_addHeading : GoodIn wsL_act (wsV RL 21 RX2 yX2_addHeading wsX2_addHeading) := goodIn_app (goodIn_of _ (by decide +kernel)) ggL_act_X2_addHeading
set_option maxRecDepth 20000 in
theorem ggL_act_X1_addHeading : GoodIn wsL_act wsX1_addHeading := goodIn_ca (goodIn_r _ [36, 37, 38, 39, 40, 226, 227, 228, 229, 230, 231, 232, 233, 234] (by decide +kernel) (by decide +kernel)) (goodIn_sub (fun _ h => List.mem_cons_of_mem _ (List.mem_append_left _ (List.mem_append_left _ (List.mem_append_right _ h)))) (by decide +kernel))
set_option maxRecDepth 20000 in
theorem gL_act_X1_addHeading : GoodIn wsL_act (wsV RL 24 RX1 yX1_addHeading wsX1_addHeading) := goodIn_app (goodIn_of _ (by decide +kernel)) ggL_act_X1_addHeading
set_option maxRecDepth 20000 in
theorem ggL_act_X2_with : GoodIn wsL_act wsX2_with := goodIn_r _ [31, 23] (by decide +kernel) (by decide +kernel)
set_option maxRecDepth 20000 in
theorem gL_act_X2_with : GoodIn wsL_act (va_wsS RL 42 yX2_with wsX2_with) := goodIn_app (goodIn_of _ (by decide +kernel)) ggL_act_X2_with
set_option maxRecDepth 20000 in
theorem ggL_act_X2_merged : GoodIn wsL_act wsX2_merged := goodIn_r _ [44, 23, 45, 46, 47, 6, 48, 9, 29, 30, 19, 31] (by decide +kernel) (by decide +kernel)
set_option maxRecDepth 20000 in
theorem gL_act_X2_merged : GoodIn wsL_act (va_wsS RL 46 yX2_merged wsX2_merged) := goodIn_app (goodIn_of _ (by decide +kernel)) ggL_act_X2_merged
set_option maxRecDepth 20000 in
theorem ggL_act_X1_addPages : GoodIn wsL_act wsX1_addPages := goodIn_ca (goodIn_ca (goodIn_ca (goodIn_r _ [52, 37, 38, 53, 54, 55, 56, 57, 35, 58, 59, 60, 61, 62, 63, 64, 39, 65, 66, 67, 68, 69, 70, 71, 72, 73, 74, 75, 40, 76, 77, 78, 79, 80, 81, 82, 83, 84, 85, 86, 87, 88, 89, 90, 91, 92, 93, 47, 6, 48, 94, 95, 96, 97, 98, 99, 100, 101, 102, 103, 104, 105, 106, 107, 108, 109, 110, 111, 112, 113, 114, 115, 116, 117, 118, 119, 120, 121, 122, 226, 227, 228, 229, 230, 231, 232, 233, 234, 235, 236, 237] (by decide +kernel) (by decide +kernel)) (goodIn_sub (fun _ h => List.mem_cons_of_mem _ (List.mem_append_left _ (List.mem_append_left _ (List.mem_append_right _ h)))) (by decide +kernel))) (goodIn_sub (fun _ h => List.mem_cons_of_mem _ (List.mem_append_left _ (List.mem_append_right _ h))) (by decide +kernel))) (goodIn_sub (fun _ h => List.mem_cons_of_mem _ (List.mem_append_right _ h)) (by decide +kernel))
set_option maxRecDepth 20000 in
theorem gL_act_X1_addPages : GoodIn wsL_act (wsV RL 50 RX1 yX1_addPages wsX1_addPages) := goodIn_app (goodIn_of _ (by decide +kernel)) ggL_act_X1_addPages
set_option maxRecDepth 20000 in
theorem ggL_act_X2_cut : GoodIn wsL_act wsX2_cut := goodIn_r _ [125, 23, 9, 126, 5, 6, 7, 46, 47, 48, 29, 30, 19, 31] (by decide +kernel) (by decide +kernel)
set_option maxRecDepth 20000 in
theorem gL_act_X2_cut : GoodIn wsL_act (va_wsS RL 54 yX2_cut wsX2_cut) := goodIn_app (goodIn_of _ (by decide +kernel)) ggL_act_X2_cut
set_option maxRecDepth 20000 in
theorem ggL_act_X2_pagesOf : GoodIn wsL_act wsX2_pagesOf := goodIn_r _ [129] (by decide +kernel) (by decide +kernel)
set_option maxRecDepth 20000 in
theorem gL_act_X2_pagesOf : GoodIn wsL_act (va_wsS RL 58 yX2_pagesOf wsX2_pagesOf) := goodIn_app (goodIn_of _ (by decide +kernel)) ggL_act_X2_pagesOf
set_option maxRecDepth 20000 in
theorem ggL_act_X1_takePages : GoodIn wsL_act wsX1_takePages := goodIn_ca (goodIn_ca (goodIn_ca (goodIn_r _ [133, 54, 55, 56, 57, 35, 58, 59, 60, 61, 62, 63, 64, 39, 65, 66, 67, 68, 69, 70, 71, 76, 77, 78, 79, 80, 81, 134, 135, 136, 85, 137, 87, 94, 92, 138, 5, 6, 7, 93, 47, 48, 139, 140, 141, 142, 88, 89, 90, 91, 107, 108, 109, 110, 37, 38, 111, 112, 113, 114, 143, 144, 145, 146, 115, 116, 117, 118, 119, 120, 121, 122, 226, 227, 228, 229, 230, 231, 232, 233, 234, 235, 236, 237] (by decide +kernel) (by decide +kernel)) (goodIn_sub (fun _ h => List.mem_cons_of_mem _ (List.mem_append_left _ (List.mem_append_right _ h))) (by decide +kernel))) (goodIn_sub (fun _ h => List.mem_cons_of_mem _ (List.mem_append_right _ h)) (by decide +kernel))) (goodIn_sub (fun _ h => List.mem_cons_of_mem _ (List.mem_append_left _ (List.mem_append_left _ (List.mem_append_right _ h)))) (by decide +kernel))
set_option maxRecDepth 20000 in
theorem gL_act_X1_takePages : GoodIn wsL_act (wsV RL 62 RX1 yX1_takePages wsX1_takePages) := goodIn_app (goodIn_of _ (by decide +kernel)) ggL_act_X1_takePages
set_option maxRecDepth 20000 in
theorem ggL_act_X1_setSee : GoodIn wsL_act wsX1_setSee := goodIn_ca (goodIn_ca (goodIn_ca (goodIn_r _ [150, 40, 55, 56, 57, 35, 58, 59, 60, 61, 62, 63, 64, 39, 151, 152, 153, 154, 69, 70, 155, 156, 157, 158, 37, 38, 76, 77, 78, 79, 80, 81, 111, 112, 113, 85, 114, 87, 226, 227, 228, 229, 230, 231, 232, 233, 234, 235, 236, 237] (by decide +kernel) (by decide +kernel)) (goodIn_sub (fun _ h => List.mem_cons_of_mem _ (List.mem_append_left _ (List.mem_append_right _ h))) (by decide +kernel))) (goodIn_sub (fun _ h => List.mem_cons_of_mem _ (List.mem_append_right _ h)) (by decide +kernel))) (goodIn_sub (fun _ h => List.mem_cons_of_mem _ (List.mem_append_left _ (List.mem_append_left _ (List.mem_append_right _ h)))) (by decide +kernel))
set_option maxRecDepth 20000 in
theorem gL_act_X1_setSee : GoodIn wsL_act (wsV RL 65 RX1 yX1_setSee wsX1_setSee) := goodIn_app (goodIn_of _ (by decide +kernel)) ggL_act_X1_setSee
set_option maxRecDepth 20000 in
theorem ggL_act_X2_with_ : GoodIn wsL_act wsX2_with_ := goodIn_r _ [28, 9] (by decide +kernel) (by decide +kernel)
set_option maxRecDepth 20000 in
theorem gL_act_X2_with_ : GoodIn wsL_act (va_wsS RL 72 yX2_with_ wsX2_with_) := goodIn_app (goodIn_of _ (by decide +kernel)) ggL_act_X2_with_
set_option maxRecDepth 20000 in
theorem ggL_act_X1_turnSeeAlso : GoodIn wsL_act wsX1_turnSeeAlso := goodIn_ca (goodIn_ca (goodIn_ca (goodIn_r _ [163, 37, 38, 164, 55, 56, 57, 35, 58, 59, 60, 61, 62, 63, 64, 39, 151, 152, 153, 154, 69, 70, 165, 166, 167, 168, 169, 170, 171, 172, 173, 174, 226, 227, 228, 229, 230, 231, 232, 233, 234] (by decide +kernel) (by decide +kernel)) (goodIn_sub (fun _ h => List.mem_cons_of_mem _ (List.mem_append_left _ (List.mem_append_left _ (List.mem_append_right _ h)))) (by decide +kernel))) (goodIn_sub (fun _ h => List.mem_cons_of_mem _ (List.mem_append_left _ (List.mem_append_right _ h))) (by decide +kernel))) (goodIn_sub (fun _ h => List.mem_cons_of_mem _ (List.mem_append_right _ h)) (by decide +kernel))
set_option maxRecDepth 20000 in
theorem gL_act_X1_turnSeeAlso : GoodIn wsL_act (wsV RL 75 RX1 yX1_turnSeeAlso wsX1_turnSeeAlso) := goodIn_app (goodIn_of _ (by decide +kernel)) ggL_act_X1_turnSeeAlso
set_option maxRecDepth 20000 in
theorem ggL_act_X2_putIn : GoodIn wsL_act wsX2_putIn := goodIn_r _ [178, 179, 21, 222, 223, 224, 225] (by decide +kernel) (by decide +kernel)
set_option maxRecDepth 20000 in
theorem gL_act_X2_putIn : GoodIn wsL_act (wsV RL 78 RX2 yX2_putIn wsX2_putIn) := goodIn_app (goodIn_of _ (by decide +kernel)) ggL_act_X2_putIn
set_option maxRecDepth 20000 in
theorem ggL_act_X1_putIn : GoodIn wsL_act wsX1_putIn := goodIn_ca (goodIn_ca (goodIn_r _ [183, 69, 70, 37, 38, 71, 39, 76, 77, 78, 35, 79, 80, 81, 61, 62, 63, 64, 184, 185, 186, 85, 187, 87, 94, 92, 226, 227, 228, 229, 230, 231, 232, 233, 234, 235, 236, 237] (by decide +kernel) (by decide +kernel)) (goodIn_sub (fun _ h => List.mem_cons_of_mem _ (List.mem_append_right _ h)) (by decide +kernel))) (goodIn_sub (fun _ h => List.mem_cons_of_mem _ (List.mem_append_left _ (List.mem_append_left _ (List.mem_append_right _ h)))) (by decide +kernel))
set_option maxRecDepth 20000 in
theorem gL_act_X1_putIn : GoodIn wsL_act (wsV RL 82 RX1 yX1_putIn wsX1_putIn) := goodIn_app (goodIn_of _ (by decide +kernel)) ggL_act_X1_putIn
set_option maxRecDepth 20000 in
theorem ggL_act_X2_onPage : GoodIn wsL_act wsX2_onPage := goodIn_r _ [191, 24, 192, 193, 194, 19, 195, 21, 222, 223, 224, 225] (by decide +kernel) (by decide +kernel)
set_option maxRecDepth 20000 in
theorem gL_act_X2_onPage : GoodIn wsL_act (wsV RL 84 RX2 yX2_onPage wsX2_onPage) := goodIn_app (goodIn_of _ (by decide +kernel)) ggL_act_X2_onPage
set_option maxRecDepth 20000 in
theorem ggL_act_X2_takeOut : GoodIn wsL_act wsX2_takeOut := goodIn_r _ [199, 179, 24, 21, 200, 124, 19, 125, 23, 9, 126, 5, 6, 7, 46, 47, 48, 29, 30, 31, 201, 43, 44, 45, 222, 223, 224, 225] (by decide +kernel) (by decide +kernel)
set_option maxRecDepth 20000 in
theorem gL_act_X2_takeOut : GoodIn wsL_act (wsV RL 88 RX2 yX2_takeOut wsX2_takeOut) := goodIn_app (goodIn_of _ (by decide +kernel)) ggL_act_X2_takeOut
set_option maxRecDepth 20000 in
theorem ggL_act_X1_takeOut : GoodIn wsL_act wsX1_takeOut := goodIn_ca (goodIn_ca (goodIn_r _ [205, 37, 38, 71, 39, 54, 206, 207, 208, 35, 209, 69, 70, 210, 211, 212, 213, 76, 77, 78, 79, 80, 81, 61, 62, 63, 64, 214, 215, 216, 85, 217, 87, 94, 92, 218, 219, 220, 221, 139, 140, 141, 142, 88, 89, 90, 91, 93, 47, 6, 48, 115, 116, 117, 118, 119, 120, 121, 122, 226, 227, 228, 229, 230, 231, 232, 233, 234, 235, 236, 237] (by decide +kernel) (by decide +kernel)) (goodIn_sub (fun _ h => List.mem_cons_of_mem _ (List.mem_append_left _ (List.mem_append_left _ (List.mem_append_right _ h)))) (by decide +kernel))) (goodIn_sub (fun _ h => List.mem_cons_of_mem _ (List.mem_append_right _ h)) (by decide +kernel))
set_option maxRecDepth 20000 in
theorem gL_act_X1_takeOut : GoodIn wsL_act (wsV RL 92 RX1 yX1_takeOut wsX1_takeOut) := goodIn_app (goodIn_of _ (by decide +kernel)) ggL_act_X1_takeOut
