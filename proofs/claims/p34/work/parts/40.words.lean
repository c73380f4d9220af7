/-! THE LAW'S WORDS: the long lists, by pieces -/
set_option maxRecDepth 20000 in
theorem wsL_law0_r1_in : ∀ w ∈ wsL_law0_r1, w ∈ lw_tbl := fun w h => (goodIn_p wsL_law0_r1 [226, 441, 42, 45] (by decide +kernel) (by decide +kernel) w h).1
set_option maxRecDepth 20000 in
theorem wsL_law0_r2_in : ∀ w ∈ wsL_law0_r2, w ∈ lw_tbl := fun w h => (goodIn_p wsL_law0_r2 [51, 594, 599] (by decide +kernel) (by decide +kernel) w h).1
set_option maxRecDepth 20000 in
theorem wsL_law0_r3_in : ∀ w ∈ wsL_law0_r3, w ∈ lw_tbl := fun w h => (goodIn_p wsL_law0_r3 [527, 523, 536, 541, 475] (by decide +kernel) (by decide +kernel) w h).1
set_option maxRecDepth 20000 in
theorem wsL_law0_r4_in : ∀ w ∈ wsL_law0_r4, w ∈ lw_tbl := by
  intro w h
  rcases List.mem_append.mp (show w ∈ [Cond.methodLink RL 24 yX1_addHeading, Cond.instanceMethod yX1_addHeading, Cond.selects RX1 yX1_addHeading yX1_addHeading, Cond.code yX1_addHeading cX1_addHeading 2 (some .int), Cond.classLink RX1 43 "java/lang/IllegalStateException", Cond.initialized "java/lang/IllegalStateException", Cond.methodLink RL 101 yL_act, Cond.static yL_act] ++ (Cond.codeWith yL_act cL_act 14 (some .boolean) [(130, 297, 789, 94), (298, 386, 789, 94), (387, 408, 789, 94), (409, 478, 789, 94), (479, 487, 789, 94), (488, 621, 789, 94), (622, 732, 789, 94), (733, 788, 789, 94)] :: [Cond.classLink RL 94 "java/lang/IllegalStateException", Cond.fieldLink RL 29 "BookIndexLaw$Sim" "pages" "I", Cond.fieldLink RL 68 "BookIndexLaw$Sim" "also" "[[I", Cond.methodLink RL 42 yX2_with, Cond.methodLink RL 46 yX2_merged, Cond.static yX2_merged, Cond.code yX2_merged cX2_merged 6 (some (.array (.array .int))), Cond.arrayClass .boolean, Cond.methodLink RX2 34 Lib.Math.max.name, Cond.methodLink RL 50 yX1_addPages, Cond.instanceMethod yX1_addPages, Cond.selects RX1 yX1_addPages yX1_addPages, Cond.code yX1_addPages cX1_addPages 5 (some .int), Cond.methodLink RX1 50 yX1_needHeading, Cond.instanceMethod yX1_needHeading]) from h) with h | h
  · exact (goodIn_p [Cond.methodLink RL 24 yX1_addHeading, Cond.instanceMethod yX1_addHeading, Cond.selects RX1 yX1_addHeading yX1_addHeading, Cond.code yX1_addHeading cX1_addHeading 2 (some .int), Cond.classLink RX1 43 "java/lang/IllegalStateException", Cond.initialized "java/lang/IllegalStateException", Cond.methodLink RL 101 yL_act, Cond.static yL_act] [545] (by decide +kernel) (by decide +kernel) w h).1
  · rcases List.mem_cons.mp h with h | h
    · rw [h]; exact List.mem_append_right _ (List.mem_append_right _ (List.mem_append_right _ (List.mem_of_getElem? (i := 25) rfl)))
    · exact (goodIn_p [Cond.classLink RL 94 "java/lang/IllegalStateException", Cond.fieldLink RL 29 "BookIndexLaw$Sim" "pages" "I", Cond.fieldLink RL 68 "BookIndexLaw$Sim" "also" "[[I", Cond.methodLink RL 42 yX2_with, Cond.methodLink RL 46 yX2_merged, Cond.static yX2_merged, Cond.code yX2_merged cX2_merged 6 (some (.array (.array .int))), Cond.arrayClass .boolean, Cond.methodLink RX2 34 Lib.Math.max.name, Cond.methodLink RL 50 yX1_addPages, Cond.instanceMethod yX1_addPages, Cond.selects RX1 yX1_addPages yX1_addPages, Cond.code yX1_addPages cX1_addPages 5 (some .int), Cond.methodLink RX1 50 yX1_needHeading, Cond.instanceMethod yX1_needHeading] [480, 95] (by decide +kernel) (by decide +kernel) w h).1
set_option maxRecDepth 20000 in
theorem wsL_law0_r5_in : ∀ w ∈ wsL_law0_r5, w ∈ lw_tbl := fun w h => (goodIn_p wsL_law0_r5 [99, 103, 175, 195, 215] (by decide +kernel) (by decide +kernel) w h).1
set_option maxRecDepth 20000 in
theorem wsL_law0_r6_in : ∀ w ∈ wsL_law0_r6, w ∈ lw_tbl := fun w h => (goodIn_p wsL_law0_r6 [219, 223, 230, 234, 238, 242] (by decide +kernel) (by decide +kernel) w h).1
set_option maxRecDepth 20000 in
theorem wsL_law0_r7_in : ∀ w ∈ wsL_law0_r7, w ∈ lw_tbl := fun w h => (goodIn_p wsL_law0_r7 [246, 251, 255, 550, 490, 556] (by decide +kernel) (by decide +kernel) w h).1
set_option maxRecDepth 20000 in
theorem wsL_law0_r8_in : ∀ w ∈ wsL_law0_r8, w ∈ lw_tbl := fun w h => (goodIn_p wsL_law0_r8 [560, 292, 327, 564, 568, 573] (by decide +kernel) (by decide +kernel) w h).1
set_option maxRecDepth 20000 in
theorem wsL_law0_r9_in : ∀ w ∈ wsL_law0_r9, w ∈ lw_tbl := fun w h => (goodIn_p wsL_law0_r9 [579, 396, 342, 584, 259] (by decide +kernel) (by decide +kernel) w h).1
set_option maxRecDepth 20000 in
theorem wsL_law0_r10_in : ∀ w ∈ wsL_law0_r10, w ∈ lw_tbl := fun w h => (goodIn_p wsL_law0_r10 [266, 505, 509, 589, 270, 274] (by decide +kernel) (by decide +kernel) w h).1
set_option maxRecDepth 20000 in
theorem wsL_law0_r11_in : ∀ w ∈ wsL_law0_r11, w ∈ lw_tbl := fun w h => (goodIn_p wsL_law0_r11 [280, 284, 288, 457, 296, 462] (by decide +kernel) (by decide +kernel) w h).1
set_option maxRecDepth 20000 in
theorem wsL_law0_r12_in : ∀ w ∈ wsL_law0_r12, w ∈ lw_tbl := fun w h => (goodIn_p wsL_law0_r12 [300, 357, 361, 365, 369] (by decide +kernel) (by decide +kernel) w h).1
set_option maxRecDepth 20000 in
theorem wsL_law0_r13_in : ∀ w ∈ wsL_law0_r13, w ∈ lw_tbl := fun w h => (goodIn_p wsL_law0_r13 [373, 385, 381, 389, 424, 400] (by decide +kernel) (by decide +kernel) w h).1
set_option maxRecDepth 20000 in
theorem wsL_law0_r14_in : ∀ w ∈ wsL_law0_r14, w ∈ lw_tbl := fun w h => (goodIn_p wsL_law0_r14 [472, 339, 408, 412, 420, 449] (by decide +kernel) (by decide +kernel) w h).1
set_option maxRecDepth 20000 in
theorem wsL_law0_r15_in : ∀ w ∈ wsL_law0_r15, w ∈ lw_tbl := fun w h => (goodIn_p wsL_law0_r15 [438, 304, 308, 312, 318] (by decide +kernel) (by decide +kernel) w h).1
set_option maxRecDepth 20000 in
theorem wsL_law0_r16_in : ∀ w ∈ wsL_law0_r16, w ∈ lw_tbl := fun w h => (goodIn_p wsL_law0_r16 [349, 323, 331, 335, 428, 434] (by decide +kernel) (by decide +kernel) w h).1
set_option maxRecDepth 20000 in
theorem wsL_law0_r17_in : ∀ w ∈ wsL_law0_r17, w ∈ lw_tbl := fun w h => (goodIn_p wsL_law0_r17 [453, 353, 377, 393, 404, 620] (by decide +kernel) (by decide +kernel) w h).1
set_option maxRecDepth 20000 in
theorem wsL_law0_r18_in : ∀ w ∈ wsL_law0_r18, w ∈ lw_tbl := fun w h => (goodIn_p wsL_law0_r18 [445, 416, 487, 499] (by decide +kernel) (by decide +kernel) w h).1
set_option maxRecDepth 20000 in
theorem wsL_law0_r19_in : ∀ w ∈ wsL_law0_r19, w ∈ lw_tbl := fun w h => (goodIn_p wsL_law0_r19 [520] (by decide +kernel) (by decide +kernel) w h).1
set_option maxRecDepth 20000 in
theorem wsL_law_wX1 : ∀ w ∈ wsX10, w ∈ lw_tbl := fun w h => (goodIn_p wsX10 [] (by decide +kernel) (by decide +kernel) w h).1
set_option maxRecDepth 20000 in
theorem wsL_law_wX2 : ∀ w ∈ wsX20, w ∈ lw_tbl := fun w h => (goodIn_p wsX20 [] (by decide +kernel) (by decide +kernel) w h).1
set_option maxRecDepth 20000 in
theorem wsL_law_wX0 : ∀ w ∈ wsX00, w ∈ lw_tbl := fun w h => (goodIn_p wsX00 [] (by decide +kernel) (by decide +kernel) w h).1
theorem wsL_law_in0 : ∀ w ∈ wsL_law0, w ∈ lw_tbl := by
  intro w h
  unfold wsL_law0 at h
  rcases List.mem_append.mp h with h | h
  rcases List.mem_append.mp h with h | h
  rcases List.mem_append.mp h with h | h
  rcases List.mem_append.mp h with h | h
  rcases List.mem_append.mp h with h | h
  · exact wsL_law0_r1_in w h
  rcases List.mem_append.mp h with h | h
  · exact wsL_law0_r2_in w h
  rcases List.mem_append.mp h with h | h
  · exact wsL_law0_r3_in w h
  rcases List.mem_append.mp h with h | h
  · exact wsL_law0_r4_in w h
  rcases List.mem_append.mp h with h | h
  · exact wsL_law0_r5_in w h
  rcases List.mem_append.mp h with h | h
  · exact wsL_law0_r6_in w h
  rcases List.mem_append.mp h with h | h
  · exact wsL_law0_r7_in w h
  rcases List.mem_append.mp h with h | h
  · exact wsL_law0_r8_in w h
  rcases List.mem_append.mp h with h | h
  · exact wsL_law0_r9_in w h
  rcases List.mem_append.mp h with h | h
  · exact wsL_law0_r10_in w h
  rcases List.mem_append.mp h with h | h
  · exact wsL_law0_r11_in w h
  rcases List.mem_append.mp h with h | h
  · exact wsL_law0_r12_in w h
  rcases List.mem_append.mp h with h | h
  · exact wsL_law0_r13_in w h
  rcases List.mem_append.mp h with h | h
  · exact wsL_law0_r14_in w h
  rcases List.mem_append.mp h with h | h
  · exact wsL_law0_r15_in w h
  rcases List.mem_append.mp h with h | h
  · exact wsL_law0_r16_in w h
  rcases List.mem_append.mp h with h | h
  · exact wsL_law0_r17_in w h
  rcases List.mem_append.mp h with h | h
  · exact wsL_law0_r18_in w h
  · exact wsL_law0_r19_in w h
  · exact wsL_law_wX1 w h
  · exact wsL_law_wX2 w h
  · exact wsL_law_wX0 w h
  · cases h
theorem wsL_law_x0 : ∀ w ∈ (vx_atS RX1 47 "java/lang/IllegalStateException" ["java/lang/RuntimeException", "java/lang/Exception"]).filter goodWord, w ∈ lw_tbl := by decide +kernel
theorem wsL_law_x1 : ∀ w ∈ (vx_atS RX1 216 "java/lang/IndexOutOfBoundsException" ["java/lang/RuntimeException", "java/lang/Exception"]).filter goodWord, w ∈ lw_tbl := by decide +kernel
theorem wsL_law_x2 : ∀ w ∈ (vx_atS RX1 113 "java/lang/IllegalArgumentException" ["java/lang/RuntimeException", "java/lang/Exception"]).filter goodWord, w ∈ lw_tbl := by decide +kernel
theorem wsL_law_in : ∀ w ∈ wsL_law, w ∈ lw_tbl := fun w h => (List.mem_append.mp h).elim (fun h => (List.mem_append.mp h).elim (fun h => (List.mem_append.mp h).elim (fun h => wsL_law_in0 w h) (fun h => wsL_law_x0 w h)) (fun h => wsL_law_x1 w h)) (fun h => wsL_law_x2 w h)
theorem inlX0 : ∀ w ∈ wsX00, w ∈ wsL_law := fun _ h => List.mem_append_left _ (List.mem_append_left _ (List.mem_append_left _ (List.mem_append_left _ (List.mem_append_right _ h))))
theorem inX0 : ∀ w ∈ wsX00, w ∈ lw_tbl := fun w h => wsL_law_in w (inlX0 w h)
theorem inlX1 : ∀ w ∈ wsX10, w ∈ wsL_law := fun _ h => List.mem_append_left _ (List.mem_append_left _ (List.mem_append_left _ (List.mem_append_left _ (List.mem_append_left _ (List.mem_append_left _ (List.mem_append_right _ h))))))
theorem inX1 : ∀ w ∈ wsX10, w ∈ lw_tbl := fun w h => wsL_law_in w (inlX1 w h)
theorem inlX2 : ∀ w ∈ wsX20, w ∈ wsL_law := fun _ h => List.mem_append_left _ (List.mem_append_left _ (List.mem_append_left _ (List.mem_append_left _ (List.mem_append_left _ (List.mem_append_right _ h)))))
theorem inX2 : ∀ w ∈ wsX20, w ∈ lw_tbl := fun w h => wsL_law_in w (inlX2 w h)
set_option maxRecDepth 20000 in
theorem ggL_build_L_act_kc : GoodIn wsL_build [.codeWith yL_act cL_act 14 (some .boolean) [(130, 297, 789, 94), (298, 386, 789, 94), (387, 408, 789, 94), (409, 478, 789, 94), (479, 487, 789, 94), (488, 621, 789, 94), (622, 732, 789, 94), (733, 788, 789, 94)]] := goodIn_sub (fun w hw => by rw [List.mem_singleton.mp hw]; exact List.mem_of_getElem? (i := 46) rfl) (by decide +kernel)
set_option maxRecDepth 20000 in
theorem ggL_build_L_act_k0 : GoodIn wsL_build wsL_act_r1 := goodIn_r _ [47, 48, 49, 50, 51, 52, 53, 54, 12, 55, 21, 22, 18, 23, 24, 25, 26, 27, 3, 28, 11, 10, 14, 13] (by decide +kernel) (by decide +kernel)
set_option maxRecDepth 20000 in
theorem ggL_build_L_act_k1 : GoodIn wsL_build wsL_act_r2 := goodIn_r _ [15, 29, 30, 31, 32, 33, 34, 35, 36, 37, 38, 39, 40, 41, 42, 43, 56, 57, 58, 59, 60, 61, 62, 63] (by decide +kernel) (by decide +kernel)
set_option maxRecDepth 20000 in
theorem ggL_build_L_act_k2 : GoodIn wsL_build wsL_act_r3 := goodIn_r _ [64, 65, 66, 67, 68, 69, 70, 71, 72, 73, 74, 75, 76, 77, 78, 79, 80, 81, 82, 83, 84, 85, 86, 87] (by decide +kernel) (by decide +kernel)
set_option maxRecDepth 20000 in
theorem ggL_build_L_act_k3 : GoodIn wsL_build wsL_act_r4 := goodIn_r _ [88, 89, 90, 91, 92, 93, 94, 95, 96, 97, 98, 99, 100, 101, 102, 103, 104, 105, 106, 107, 108, 109, 110, 111] (by decide +kernel) (by decide +kernel)
set_option maxRecDepth 20000 in
theorem ggL_build_L_act_k4 : GoodIn wsL_build wsL_act_r5 := goodIn_r _ [112, 113, 114, 115, 116, 117, 118, 119, 120, 121, 122, 123, 124, 125, 126, 127, 128, 129, 130, 131, 132, 133, 134, 135] (by decide +kernel) (by decide +kernel)
set_option maxRecDepth 20000 in
theorem ggL_build_L_act_k5 : GoodIn wsL_build wsL_act_r6 := goodIn_r _ [136, 137, 138, 139, 140, 141, 142, 143, 144, 145, 146, 147, 148, 149, 150, 151, 152, 153, 154, 155, 156, 157, 158, 159] (by decide +kernel) (by decide +kernel)
set_option maxRecDepth 20000 in
theorem ggL_build_L_act_k6 : GoodIn wsL_build wsL_act_r7 := goodIn_r _ [160, 161, 162, 163, 164, 165, 166, 167, 168, 169, 170, 171, 172, 173, 174, 175, 176, 177, 178, 179, 180, 181, 182, 183] (by decide +kernel) (by decide +kernel)
set_option maxRecDepth 20000 in
theorem ggL_build_L_act_k7 : GoodIn wsL_build wsL_act_r8 := goodIn_r _ [184, 185, 186, 187, 188, 189, 190, 191, 192, 193, 9, 194, 195, 196, 197, 198, 199, 200, 201, 202, 203, 204, 205, 206] (by decide +kernel) (by decide +kernel)
set_option maxRecDepth 20000 in
theorem ggL_build_L_act_k8 : GoodIn wsL_build wsL_act_r9 := goodIn_r _ [207, 208, 209, 210, 211, 212, 213, 214, 215, 216, 217, 218, 219, 220, 221, 222, 223, 224, 225, 226, 227, 228, 229, 230] (by decide +kernel) (by decide +kernel)
set_option maxRecDepth 20000 in
theorem ggL_build_L_act_k9 : GoodIn wsL_build wsL_act_r10 := goodIn_r _ [231, 232, 233, 234, 235] (by decide +kernel) (by decide +kernel)
theorem ggL_build_L_act_kX2 : GoodIn wsL_build wsX20 := goodIn_sub (fun _ h => List.mem_cons_of_mem _ (List.mem_append_left _ (List.mem_append_left _ (List.mem_append_left _ (List.mem_append_left _ (List.mem_append_left _ (List.mem_append_right _ h))))))) (by decide +kernel)
theorem ggL_build_L_act_kX1 : GoodIn wsL_build wsX10 := goodIn_sub (fun _ h => List.mem_cons_of_mem _ (List.mem_append_left _ (List.mem_append_left _ (List.mem_append_left _ (List.mem_append_left _ (List.mem_append_right _ h)))))) (by decide +kernel)
theorem ggL_build_L_act_kX0 : GoodIn wsL_build wsX00 := goodIn_sub (fun _ h => List.mem_cons_of_mem _ (List.mem_append_left _ (List.mem_append_left _ (List.mem_append_left _ (List.mem_append_right _ h))))) (by decide +kernel)
theorem ggL_build_L_act_kV0 : GoodIn wsL_build ((vx_atS RX1 47 "java/lang/IllegalStateException" ["java/lang/RuntimeException", "java/lang/Exception"]).filter goodWord) := goodIn_sub (fun _ h => List.mem_cons_of_mem _ (List.mem_append_left _ (List.mem_append_left _ (List.mem_append_right _ h)))) (by decide +kernel)
theorem ggL_build_L_act_kV1 : GoodIn wsL_build ((vx_atS RX1 216 "java/lang/IndexOutOfBoundsException" ["java/lang/RuntimeException", "java/lang/Exception"]).filter goodWord) := goodIn_sub (fun _ h => List.mem_cons_of_mem _ (List.mem_append_left _ (List.mem_append_right _ h))) (by decide +kernel)
theorem ggL_build_L_act_kV2 : GoodIn wsL_build ((vx_atS RX1 113 "java/lang/IllegalArgumentException" ["java/lang/RuntimeException", "java/lang/Exception"]).filter goodWord) := goodIn_sub (fun _ h => List.mem_cons_of_mem _ (List.mem_append_right _ h)) (by decide +kernel)
theorem ggL_build_L_act : GoodIn wsL_build wsL_act := by
  intro w h
  unfold wsL_act at h
  rcases List.mem_cons.mp h with h | h
  · exact ggL_build_L_act_kc w (by rw [h]; exact List.mem_cons_self)
  rcases List.mem_append.mp h with h | h
  rcases List.mem_append.mp h with h | h
  rcases List.mem_append.mp h with h | h
  rcases List.mem_append.mp h with h | h
  rcases List.mem_append.mp h with h | h
  rcases List.mem_append.mp h with h | h
  rcases List.mem_append.mp h with h | h
  · exact ggL_build_L_act_k0 w h
  rcases List.mem_append.mp h with h | h
  · exact ggL_build_L_act_k1 w h
  rcases List.mem_append.mp h with h | h
  · exact ggL_build_L_act_k2 w h
  rcases List.mem_append.mp h with h | h
  · exact ggL_build_L_act_k3 w h
  rcases List.mem_append.mp h with h | h
  · exact ggL_build_L_act_k4 w h
  rcases List.mem_append.mp h with h | h
  · exact ggL_build_L_act_k5 w h
  rcases List.mem_append.mp h with h | h
  · exact ggL_build_L_act_k6 w h
  rcases List.mem_append.mp h with h | h
  · exact ggL_build_L_act_k7 w h
  rcases List.mem_append.mp h with h | h
  · exact ggL_build_L_act_k8 w h
  · exact ggL_build_L_act_k9 w h
  · exact ggL_build_L_act_kX2 w h
  · exact ggL_build_L_act_kX1 w h
  · exact ggL_build_L_act_kX0 w h
  · exact ggL_build_L_act_kV0 w h
  · exact ggL_build_L_act_kV1 w h
  · exact ggL_build_L_act_kV2 w h
set_option maxRecDepth 20000 in
theorem gL_build_L_act : GoodIn wsL_build (va_wsS RL 101 yL_act wsL_act) := goodIn_app (goodIn_of _ (by decide +kernel)) ggL_build_L_act
set_option maxRecDepth 20000 in
theorem ggL_law_L_build_kc : GoodIn wsL_law [.code yL_build cL_build 5 (some (.object "BookIndexLaw$Sim"))] := goodIn_r _ [41] (by decide +kernel) (by decide +kernel)
set_option maxRecDepth 20000 in
theorem ggL_law_L_build_k0 : GoodIn wsL_law wsL_build_r1 := goodIn_r _ [42, 43, 44, 45, 46, 47, 17, 18, 48, 49, 50, 11, 51, 52, 53, 54, 55, 40, 56, 57, 58, 59, 60, 61] (by decide +kernel) (by decide +kernel)
set_option maxRecDepth 20000 in
theorem ggL_law_L_build_k1 : GoodIn wsL_law wsL_build_r2 := by
  intro w h
  rcases List.mem_append.mp (show w ∈ [Cond.methodLink RL 21 yX2_addHeading, Cond.instanceMethod yX2_addHeading, Cond.selects RX2 yX2_addHeading yX2_addHeading, Cond.code yX2_addHeading cX2_addHeading 3 none, Cond.methodLink RX2 27 yX2_with_, Cond.static yX2_with_, Cond.code yX2_with_ cX2_with_ 4 (some (.array .int)), Cond.methodLink RX2 31 yX2_with, Cond.static yX2_with, Cond.code yX2_with cX2_with 4 (some (.array (.array .int))), Cond.methodLink RL 24 yX1_addHeading, Cond.instanceMethod yX1_addHeading, Cond.selects RX1 yX1_addHeading yX1_addHeading, Cond.initialized RX1, Cond.code yX1_addHeading cX1_addHeading 2 (some .int), Cond.classLink RX1 43 "java/lang/IllegalStateException", Cond.initialized "java/lang/IllegalStateException", Cond.fieldLink RX1 36 "BookIndex" "headingCount" "I", Cond.fieldLink RX1 16 "BookIndex" "sees" "[I", Cond.methodLink RL 101 yL_act, Cond.static yL_act] ++ (Cond.codeWith yL_act cL_act 14 (some .boolean) [(130, 297, 789, 94), (298, 386, 789, 94), (387, 408, 789, 94), (409, 478, 789, 94), (479, 487, 789, 94), (488, 621, 789, 94), (622, 732, 789, 94), (733, 788, 789, 94)] :: [Cond.classLink RL 94 "java/lang/IllegalStateException", Cond.fieldLink RL 9 "BookIndexLaw$Sim" "see" "[I"]) from h) with h | h
  · exact goodIn_r [Cond.methodLink RL 21 yX2_addHeading, Cond.instanceMethod yX2_addHeading, Cond.selects RX2 yX2_addHeading yX2_addHeading, Cond.code yX2_addHeading cX2_addHeading 3 none, Cond.methodLink RX2 27 yX2_with_, Cond.static yX2_with_, Cond.code yX2_with_ cX2_with_ 4 (some (.array .int)), Cond.methodLink RX2 31 yX2_with, Cond.static yX2_with, Cond.code yX2_with cX2_with 4 (some (.array (.array .int))), Cond.methodLink RL 24 yX1_addHeading, Cond.instanceMethod yX1_addHeading, Cond.selects RX1 yX1_addHeading yX1_addHeading, Cond.initialized RX1, Cond.code yX1_addHeading cX1_addHeading 2 (some .int), Cond.classLink RX1 43 "java/lang/IllegalStateException", Cond.initialized "java/lang/IllegalStateException", Cond.fieldLink RX1 36 "BookIndex" "headingCount" "I", Cond.fieldLink RX1 16 "BookIndex" "sees" "[I", Cond.methodLink RL 101 yL_act, Cond.static yL_act] [62, 63, 64, 65, 66, 67, 68, 69, 70, 71, 72, 73, 74, 2, 75, 76, 77, 29, 23, 78, 79] (by decide +kernel) (by decide +kernel) w h
  · rcases List.mem_cons.mp h with h | h
    · exact goodIn_sub (ws := [Cond.codeWith yL_act cL_act 14 (some .boolean) [(130, 297, 789, 94), (298, 386, 789, 94), (387, 408, 789, 94), (409, 478, 789, 94), (479, 487, 789, 94), (488, 621, 789, 94), (622, 732, 789, 94), (733, 788, 789, 94)]]) (fun w hw => by rw [List.mem_singleton.mp hw]; exact List.mem_of_getElem? (i := 80) rfl) (by decide +kernel) w (by rw [h]; exact List.mem_cons_self)
    · exact goodIn_r [Cond.classLink RL 94 "java/lang/IllegalStateException", Cond.fieldLink RL 9 "BookIndexLaw$Sim" "see" "[I"] [81, 12] (by decide +kernel) (by decide +kernel) w h
set_option maxRecDepth 20000 in
theorem ggL_law_L_build_k2 : GoodIn wsL_law wsL_build_r3 := goodIn_r _ [82, 7, 8, 5, 9, 10, 83, 84, 85, 86, 87, 88, 89, 4, 6, 90, 91, 92, 93, 26, 27, 94, 95, 96] (by decide +kernel) (by decide +kernel)
set_option maxRecDepth 20000 in
theorem ggL_law_L_build_k3 : GoodIn wsL_law wsL_build_r4 := goodIn_r _ [97, 98, 99, 100, 101, 102, 103, 104, 105, 106, 107, 108, 109, 30, 110, 111, 112, 113, 114, 115, 116, 117, 20, 28] (by decide +kernel) (by decide +kernel)
set_option maxRecDepth 20000 in
theorem ggL_law_L_build_k4 : GoodIn wsL_law wsL_build_r5 := goodIn_r _ [118, 119, 120, 22, 121, 37, 122, 123, 124, 125, 36, 126, 35, 127, 128, 129, 130, 131, 132, 133, 134, 135, 136, 137] (by decide +kernel) (by decide +kernel)
set_option maxRecDepth 20000 in
theorem ggL_law_L_build_k5 : GoodIn wsL_law wsL_build_r6 := goodIn_r _ [138, 139, 140, 141, 142, 143, 144, 145, 146, 147, 148, 149, 150, 151, 152, 153, 154, 155, 156, 157, 158, 159, 160, 161] (by decide +kernel) (by decide +kernel)
set_option maxRecDepth 20000 in
theorem ggL_law_L_build_k6 : GoodIn wsL_law wsL_build_r7 := goodIn_r _ [162, 163, 164, 165, 166, 167, 168, 169, 170, 171, 172, 173, 174, 175, 176, 177, 178, 179, 180, 181, 182, 183, 184, 185] (by decide +kernel) (by decide +kernel)
set_option maxRecDepth 20000 in
theorem ggL_law_L_build_k7 : GoodIn wsL_law wsL_build_r8 := goodIn_r _ [186, 187, 188, 189, 190, 191, 192, 193, 194, 195, 24, 196, 197, 198, 199, 200, 201, 202, 203, 204, 205, 206, 207, 208] (by decide +kernel) (by decide +kernel)
set_option maxRecDepth 20000 in
theorem ggL_law_L_build_k8 : GoodIn wsL_law wsL_build_r9 := goodIn_r _ [209, 210, 211, 212, 213, 214, 215, 216, 217, 218, 219, 220, 221, 222, 223, 224, 225, 226, 227, 228, 229, 230, 231, 232] (by decide +kernel) (by decide +kernel)
set_option maxRecDepth 20000 in
theorem ggL_law_L_build_k9 : GoodIn wsL_law wsL_build_r10 := goodIn_r _ [233, 234, 235, 236, 237, 238, 239, 240, 241, 242, 243, 244, 245, 246, 247, 248, 249, 250, 251] (by decide +kernel) (by decide +kernel)
theorem ggL_law_L_build_kX2 : GoodIn wsL_law wsX20 := goodIn_sub (fun _ h => inlX2 _ h) (by decide +kernel)
theorem ggL_law_L_build_kX1 : GoodIn wsL_law wsX10 := goodIn_sub (fun _ h => inlX1 _ h) (by decide +kernel)
theorem ggL_law_L_build_kX0 : GoodIn wsL_law wsX00 := goodIn_sub (fun _ h => inlX0 _ h) (by decide +kernel)
theorem ggL_law_L_build_kV0 : GoodIn wsL_law ((vx_atS RX1 47 "java/lang/IllegalStateException" ["java/lang/RuntimeException", "java/lang/Exception"]).filter goodWord) := goodIn_sub (fun _ h => (List.mem_append_left _ (List.mem_append_left _ (List.mem_append_right _ h)))) (by decide +kernel)
theorem ggL_law_L_build_kV1 : GoodIn wsL_law ((vx_atS RX1 216 "java/lang/IndexOutOfBoundsException" ["java/lang/RuntimeException", "java/lang/Exception"]).filter goodWord) := goodIn_sub (fun _ h => (List.mem_append_left _ (List.mem_append_right _ h))) (by decide +kernel)
theorem ggL_law_L_build_kV2 : GoodIn wsL_law ((vx_atS RX1 113 "java/lang/IllegalArgumentException" ["java/lang/RuntimeException", "java/lang/Exception"]).filter goodWord) := goodIn_sub (fun _ h => (List.mem_append_right _ h)) (by decide +kernel)
theorem ggL_law_L_build : GoodIn wsL_law wsL_build := by
  intro w h
  unfold wsL_build at h
  rcases List.mem_cons.mp h with h | h
  · exact ggL_law_L_build_kc w (by rw [h]; exact List.mem_cons_self)
  rcases List.mem_append.mp h with h | h
  rcases List.mem_append.mp h with h | h
  rcases List.mem_append.mp h with h | h
  rcases List.mem_append.mp h with h | h
  rcases List.mem_append.mp h with h | h
  rcases List.mem_append.mp h with h | h
  rcases List.mem_append.mp h with h | h
  · exact ggL_law_L_build_k0 w h
  rcases List.mem_append.mp h with h | h
  · exact ggL_law_L_build_k1 w h
  rcases List.mem_append.mp h with h | h
  · exact ggL_law_L_build_k2 w h
  rcases List.mem_append.mp h with h | h
  · exact ggL_law_L_build_k3 w h
  rcases List.mem_append.mp h with h | h
  · exact ggL_law_L_build_k4 w h
  rcases List.mem_append.mp h with h | h
  · exact ggL_law_L_build_k5 w h
  rcases List.mem_append.mp h with h | h
  · exact ggL_law_L_build_k6 w h
  rcases List.mem_append.mp h with h | h
  · exact ggL_law_L_build_k7 w h
  rcases List.mem_append.mp h with h | h
  · exact ggL_law_L_build_k8 w h
  · exact ggL_law_L_build_k9 w h
  · exact ggL_law_L_build_kX2 w h
  · exact ggL_law_L_build_kX1 w h
  · exact ggL_law_L_build_kX0 w h
  · exact ggL_law_L_build_kV0 w h
  · exact ggL_law_L_build_kV1 w h
  · exact ggL_law_L_build_kV2 w h
set_option maxRecDepth 20000 in
theorem gL_law_L_build : GoodIn wsL_law (va_wsS RL 106 yL_build wsL_build) := goodIn_app (goodIn_of _ (by decide +kernel)) ggL_law_L_build
set_option maxRecDepth 20000 in
theorem ggL_law_L_act_kc : GoodIn wsL_law [.codeWith yL_act cL_act 14 (some .boolean) [(130, 297, 789, 94), (298, 386, 789, 94), (387, 408, 789, 94), (409, 478, 789, 94), (479, 487, 789, 94), (488, 621, 789, 94), (622, 732, 789, 94), (733, 788, 789, 94)]] := goodIn_sub (fun w hw => by rw [List.mem_singleton.mp hw]; exact List.mem_of_getElem? (i := 80) rfl) (by decide +kernel)
set_option maxRecDepth 20000 in
theorem ggL_law_L_act_k0 : GoodIn wsL_law wsL_act_r1 := goodIn_r _ [81, 12, 82, 7, 8, 5, 9, 10, 11, 83, 58, 59, 40, 60, 61, 62, 63, 64, 44, 65, 50, 49, 52, 51] (by decide +kernel) (by decide +kernel)
set_option maxRecDepth 20000 in
theorem ggL_law_L_act_k1 : GoodIn wsL_law wsL_act_r2 := goodIn_r _ [53, 66, 67, 68, 69, 70, 71, 72, 73, 74, 2, 75, 76, 77, 29, 23, 84, 85, 86, 87, 88, 89, 4, 6] (by decide +kernel) (by decide +kernel)
set_option maxRecDepth 20000 in
theorem ggL_law_L_act_k2 : GoodIn wsL_law wsL_act_r3 := goodIn_r _ [90, 91, 92, 93, 26, 27, 94, 95, 96, 97, 98, 99, 100, 101, 102, 103, 104, 105, 106, 107, 108, 109, 30, 110] (by decide +kernel) (by decide +kernel)
set_option maxRecDepth 20000 in
theorem ggL_law_L_act_k3 : GoodIn wsL_law wsL_act_r4 := goodIn_r _ [111, 112, 113, 114, 115, 116, 117, 20, 28, 118, 119, 120, 22, 121, 37, 122, 123, 124, 125, 36, 126, 35, 127, 128] (by decide +kernel) (by decide +kernel)
set_option maxRecDepth 20000 in
theorem ggL_law_L_act_k4 : GoodIn wsL_law wsL_act_r5 := goodIn_r _ [129, 130, 131, 132, 133, 134, 135, 136, 137, 138, 139, 140, 141, 142, 143, 144, 145, 146, 147, 148, 149, 150, 151, 152] (by decide +kernel) (by decide +kernel)
set_option maxRecDepth 20000 in
theorem ggL_law_L_act_k5 : GoodIn wsL_law wsL_act_r6 := goodIn_r _ [153, 154, 155, 156, 157, 158, 159, 160, 161, 162, 163, 164, 165, 166, 167, 168, 169, 170, 171, 172, 173, 174, 175, 176] (by decide +kernel) (by decide +kernel)
set_option maxRecDepth 20000 in
theorem ggL_law_L_act_k6 : GoodIn wsL_law wsL_act_r7 := goodIn_r _ [177, 178, 179, 180, 181, 182, 183, 184, 185, 186, 187, 188, 189, 190, 191, 192, 193, 194, 195, 24, 196, 197, 198, 199] (by decide +kernel) (by decide +kernel)
set_option maxRecDepth 20000 in
theorem ggL_law_L_act_k7 : GoodIn wsL_law wsL_act_r8 := goodIn_r _ [200, 201, 202, 203, 204, 205, 206, 207, 208, 209, 48, 210, 211, 212, 213, 214, 215, 216, 217, 218, 219, 220, 221, 222] (by decide +kernel) (by decide +kernel)
set_option maxRecDepth 20000 in
theorem ggL_law_L_act_k8 : GoodIn wsL_law wsL_act_r9 := goodIn_r _ [223, 224, 225, 226, 227, 228, 229, 230, 231, 232, 233, 234, 235, 236, 237, 238, 239, 240, 241, 242, 243, 244, 245, 246] (by decide +kernel) (by decide +kernel)
set_option maxRecDepth 20000 in
theorem ggL_law_L_act_k9 : GoodIn wsL_law wsL_act_r10 := goodIn_r _ [247, 248, 249, 250, 251] (by decide +kernel) (by decide +kernel)
theorem ggL_law_L_act_kX2 : GoodIn wsL_law wsX20 := goodIn_sub (fun _ h => inlX2 _ h) (by decide +kernel)
theorem ggL_law_L_act_kX1 : GoodIn wsL_law wsX10 := goodIn_sub (fun _ h => inlX1 _ h) (by decide +kernel)
theorem ggL_law_L_act_kX0 : GoodIn wsL_law wsX00 := goodIn_sub (fun _ h => inlX0 _ h) (by decide +kernel)
theorem ggL_law_L_act_kV0 : GoodIn wsL_law ((vx_atS RX1 47 "java/lang/IllegalStateException" ["java/lang/RuntimeException", "java/lang/Exception"]).filter goodWord) := goodIn_sub (fun _ h => (List.mem_append_left _ (List.mem_append_left _ (List.mem_append_right _ h)))) (by decide +kernel)
theorem ggL_law_L_act_kV1 : GoodIn wsL_law ((vx_atS RX1 216 "java/lang/IndexOutOfBoundsException" ["java/lang/RuntimeException", "java/lang/Exception"]).filter goodWord) := goodIn_sub (fun _ h => (List.mem_append_left _ (List.mem_append_right _ h))) (by decide +kernel)
theorem ggL_law_L_act_kV2 : GoodIn wsL_law ((vx_atS RX1 113 "java/lang/IllegalArgumentException" ["java/lang/RuntimeException", "java/lang/Exception"]).filter goodWord) := goodIn_sub (fun _ h => (List.mem_append_right _ h)) (by decide +kernel)
theorem ggL_law_L_act : GoodIn wsL_law wsL_act := by
  intro w h
  unfold wsL_act at h
  rcases List.mem_cons.mp h with h | h
  · exact ggL_law_L_act_kc w (by rw [h]; exact List.mem_cons_self)
  rcases List.mem_append.mp h with h | h
  rcases List.mem_append.mp h with h | h
  rcases List.mem_append.mp h with h | h
  rcases List.mem_append.mp h with h | h
  rcases List.mem_append.mp h with h | h
  rcases List.mem_append.mp h with h | h
  rcases List.mem_append.mp h with h | h
  · exact ggL_law_L_act_k0 w h
  rcases List.mem_append.mp h with h | h
  · exact ggL_law_L_act_k1 w h
  rcases List.mem_append.mp h with h | h
  · exact ggL_law_L_act_k2 w h
  rcases List.mem_append.mp h with h | h
  · exact ggL_law_L_act_k3 w h
  rcases List.mem_append.mp h with h | h
  · exact ggL_law_L_act_k4 w h
  rcases List.mem_append.mp h with h | h
  · exact ggL_law_L_act_k5 w h
  rcases List.mem_append.mp h with h | h
  · exact ggL_law_L_act_k6 w h
  rcases List.mem_append.mp h with h | h
  · exact ggL_law_L_act_k7 w h
  rcases List.mem_append.mp h with h | h
  · exact ggL_law_L_act_k8 w h
  · exact ggL_law_L_act_k9 w h
  · exact ggL_law_L_act_kX2 w h
  · exact ggL_law_L_act_kX1 w h
  · exact ggL_law_L_act_kX0 w h
  · exact ggL_law_L_act_kV0 w h
  · exact ggL_law_L_act_kV1 w h
  · exact ggL_law_L_act_kV2 w h
set_option maxRecDepth 20000 in
theorem gL_law_L_act : GoodIn wsL_law (va_wsS RL 101 yL_act wsL_act) := goodIn_app (goodIn_of _ (by decide +kernel)) ggL_law_L_act
set_option maxRecDepth 20000 in
theorem ggL_law_X2_isSame_kc : GoodIn wsL_law [.code yX2_isSame cX2_isSame 14 (some .boolean)] := goodIn_r _ [420] (by decide +kernel) (by decide +kernel)
set_option maxRecDepth 20000 in
theorem ggL_law_X2_isSame_k0 : GoodIn wsL_law wsX2_isSame_r1 := goodIn_r _ [51, 88, 50, 53, 48, 421, 160, 44, 161, 422, 342, 343, 2, 344, 94, 95, 96, 97, 98, 99, 100, 101, 102, 103] (by decide +kernel) (by decide +kernel)
set_option maxRecDepth 20000 in
theorem ggL_law_X2_isSame_k1 : GoodIn wsL_law wsX2_isSame_r2 := goodIn_r _ [29, 114, 115, 116, 117, 20, 28, 143, 144, 145, 22, 146, 37, 423, 362, 363, 364, 175, 176, 177, 178, 36, 35, 424] (by decide +kernel) (by decide +kernel)
set_option maxRecDepth 20000 in
theorem ggL_law_X2_isSame_k2 : GoodIn wsL_law wsX2_isSame_r3 := goodIn_r _ [366, 367, 368, 110, 111, 112, 113, 23, 425, 370, 371, 372, 315, 316, 317, 318, 24, 199, 200, 201, 202, 203, 204, 205] (by decide +kernel) (by decide +kernel)
set_option maxRecDepth 20000 in
theorem ggL_law_X2_isSame_k3 : GoodIn wsL_law wsX2_isSame_r4 := goodIn_r _ [426, 393, 394, 395, 295, 296, 297, 298, 427, 428, 429, 430, 431, 346, 347, 348, 349, 350, 351, 352, 281, 132, 133, 134] (by decide +kernel) (by decide +kernel)
set_option maxRecDepth 20000 in
theorem ggL_law_X2_isSame_k4 : GoodIn wsL_law wsX2_isSame_r5 := goodIn_r _ [432, 354, 355, 356, 286, 136, 137, 138, 433, 219, 220, 221, 222, 223, 224, 225, 434, 387, 388, 389, 236, 237, 238, 239] (by decide +kernel) (by decide +kernel)
set_option maxRecDepth 20000 in
theorem ggL_law_X2_isSame_k5 : GoodIn wsL_law wsX2_isSame_r6 := goodIn_r _ [108, 109, 30, 240, 241, 242, 243, 244, 245, 246, 247, 435, 258, 259, 260, 436, 266, 267, 268, 437, 270, 271, 272, 25] (by decide +kernel) (by decide +kernel)
set_option maxRecDepth 20000 in
theorem ggL_law_X2_isSame_k6 : GoodIn wsL_law wsX2_isSame_r7 := goodIn_r _ [273, 274, 275, 276, 277, 278, 279, 280, 282, 283, 284, 285, 438, 288, 289, 290, 439, 292, 293, 294, 299, 300, 301, 302] (by decide +kernel) (by decide +kernel)
set_option maxRecDepth 20000 in
theorem ggL_law_X2_isSame_k7 : GoodIn wsL_law wsX2_isSame_r8 := goodIn_r _ [440, 304, 305, 306, 307, 308, 309, 310, 196, 197, 198, 441, 442, 443, 444] (by decide +kernel) (by decide +kernel)
theorem ggL_law_X2_isSame_kX2 : GoodIn wsL_law wsX20 := goodIn_sub (fun _ h => inlX2 _ h) (by decide +kernel)
theorem ggL_law_X2_isSame_kX1 : GoodIn wsL_law wsX10 := goodIn_sub (fun _ h => inlX1 _ h) (by decide +kernel)
theorem ggL_law_X2_isSame_kX0 : GoodIn wsL_law wsX00 := goodIn_sub (fun _ h => inlX0 _ h) (by decide +kernel)
theorem ggL_law_X2_isSame_kV1 : GoodIn wsL_law ((vx_atS RX1 216 "java/lang/IndexOutOfBoundsException" ["java/lang/RuntimeException", "java/lang/Exception"]).filter goodWord) := goodIn_sub (fun _ h => (List.mem_append_left _ (List.mem_append_right _ h))) (by decide +kernel)
theorem ggL_law_X2_isSame_kV2 : GoodIn wsL_law ((vx_atS RX1 113 "java/lang/IllegalArgumentException" ["java/lang/RuntimeException", "java/lang/Exception"]).filter goodWord) := goodIn_sub (fun _ h => (List.mem_append_right _ h)) (by decide +kernel)
theorem ggL_law_X2_isSame : GoodIn wsL_law wsX2_isSame := by
  intro w h
  unfold wsX2_isSame at h
  rcases List.mem_cons.mp h with h | h
  · exact ggL_law_X2_isSame_kc w (by rw [h]; exact List.mem_cons_self)
  rcases List.mem_append.mp h with h | h
  rcases List.mem_append.mp h with h | h
  rcases List.mem_append.mp h with h | h
  rcases List.mem_append.mp h with h | h
  rcases List.mem_append.mp h with h | h
  rcases List.mem_append.mp h with h | h
  · exact ggL_law_X2_isSame_k0 w h
  rcases List.mem_append.mp h with h | h
  · exact ggL_law_X2_isSame_k1 w h
  rcases List.mem_append.mp h with h | h
  · exact ggL_law_X2_isSame_k2 w h
  rcases List.mem_append.mp h with h | h
  · exact ggL_law_X2_isSame_k3 w h
  rcases List.mem_append.mp h with h | h
  · exact ggL_law_X2_isSame_k4 w h
  rcases List.mem_append.mp h with h | h
  · exact ggL_law_X2_isSame_k5 w h
  rcases List.mem_append.mp h with h | h
  · exact ggL_law_X2_isSame_k6 w h
  · exact ggL_law_X2_isSame_k7 w h
  · exact ggL_law_X2_isSame_kX2 w h
  · exact ggL_law_X2_isSame_kX1 w h
  · exact ggL_law_X2_isSame_kX0 w h
  · exact ggL_law_X2_isSame_kV1 w h
  · exact ggL_law_X2_isSame_kV2 w h
set_option maxRecDepth 20000 in
theorem gL_law_X2_isSame : GoodIn wsL_law (wsV RL 188 RX2 yX2_isSame wsX2_isSame) := goodIn_app (goodIn_of _ (by decide +kernel)) ggL_law_X2_isSame
