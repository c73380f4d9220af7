theorem dJ6_bitCount_0f7a4_0 : decode cJ6_bitCount_0f7a4 0 = .ok (.iload_n 0, 1) := by decide +kernel
theorem dJ6_bitCount_0f7a4_1 : decode cJ6_bitCount_0f7a4 1 = .ok (.iload_n 0, 1) := by decide +kernel
theorem dJ6_bitCount_0f7a4_2 : decode cJ6_bitCount_0f7a4 2 = .ok (.iconst 1, 1) := by decide +kernel
theorem dJ6_bitCount_0f7a4_3 : decode cJ6_bitCount_0f7a4 3 = .ok (.iushr, 1) := by decide +kernel
theorem dJ6_bitCount_0f7a4_4 : decode cJ6_bitCount_0f7a4 4 = .ok (.ldc_w 265, 3) := by decide +kernel
theorem dJ6_bitCount_0f7a4_7 : decode cJ6_bitCount_0f7a4 7 = .ok (.iand, 1) := by decide +kernel
theorem dJ6_bitCount_0f7a4_8 : decode cJ6_bitCount_0f7a4 8 = .ok (.isub, 1) := by decide +kernel
theorem dJ6_bitCount_0f7a4_9 : decode cJ6_bitCount_0f7a4 9 = .ok (.istore_n 0, 1) := by decide +kernel
theorem dJ6_bitCount_0f7a4_10 : decode cJ6_bitCount_0f7a4 10 = .ok (.iload_n 0, 1) := by decide +kernel
theorem dJ6_bitCount_0f7a4_11 : decode cJ6_bitCount_0f7a4 11 = .ok (.ldc_w 266, 3) := by decide +kernel
theorem dJ6_bitCount_0f7a4_14 : decode cJ6_bitCount_0f7a4 14 = .ok (.iand, 1) := by decide +kernel
theorem dJ6_bitCount_0f7a4_15 : decode cJ6_bitCount_0f7a4 15 = .ok (.iload_n 0, 1) := by decide +kernel
theorem dJ6_bitCount_0f7a4_16 : decode cJ6_bitCount_0f7a4 16 = .ok (.iconst 2, 1) := by decide +kernel
theorem dJ6_bitCount_0f7a4_17 : decode cJ6_bitCount_0f7a4 17 = .ok (.iushr, 1) := by decide +kernel
theorem dJ6_bitCount_0f7a4_18 : decode cJ6_bitCount_0f7a4 18 = .ok (.ldc_w 266, 3) := by decide +kernel
theorem dJ6_bitCount_0f7a4_21 : decode cJ6_bitCount_0f7a4 21 = .ok (.iand, 1) := by decide +kernel
theorem dJ6_bitCount_0f7a4_22 : decode cJ6_bitCount_0f7a4 22 = .ok (.iadd, 1) := by decide +kernel
theorem dJ6_bitCount_0f7a4_23 : decode cJ6_bitCount_0f7a4 23 = .ok (.istore_n 0, 1) := by decide +kernel
theorem dJ6_bitCount_0f7a4_24 : decode cJ6_bitCount_0f7a4 24 = .ok (.iload_n 0, 1) := by decide +kernel
theorem dJ6_bitCount_0f7a4_25 : decode cJ6_bitCount_0f7a4 25 = .ok (.iload_n 0, 1) := by decide +kernel
theorem dJ6_bitCount_0f7a4_26 : decode cJ6_bitCount_0f7a4 26 = .ok (.iconst 4, 1) := by decide +kernel
theorem dJ6_bitCount_0f7a4_27 : decode cJ6_bitCount_0f7a4 27 = .ok (.iushr, 1) := by decide +kernel
theorem dJ6_bitCount_0f7a4_28 : decode cJ6_bitCount_0f7a4 28 = .ok (.iadd, 1) := by decide +kernel
theorem dJ6_bitCount_0f7a4_29 : decode cJ6_bitCount_0f7a4 29 = .ok (.ldc_w 267, 3) := by decide +kernel
theorem dJ6_bitCount_0f7a4_32 : decode cJ6_bitCount_0f7a4 32 = .ok (.iand, 1) := by decide +kernel
theorem dJ6_bitCount_0f7a4_33 : decode cJ6_bitCount_0f7a4 33 = .ok (.istore_n 0, 1) := by decide +kernel
theorem dJ6_bitCount_0f7a4_34 : decode cJ6_bitCount_0f7a4 34 = .ok (.iload_n 0, 1) := by decide +kernel
theorem dJ6_bitCount_0f7a4_35 : decode cJ6_bitCount_0f7a4 35 = .ok (.iload_n 0, 1) := by decide +kernel
theorem dJ6_bitCount_0f7a4_36 : decode cJ6_bitCount_0f7a4 36 = .ok (.bipush 8, 2) := by decide +kernel
theorem dJ6_bitCount_0f7a4_38 : decode cJ6_bitCount_0f7a4 38 = .ok (.iushr, 1) := by decide +kernel
theorem dJ6_bitCount_0f7a4_39 : decode cJ6_bitCount_0f7a4 39 = .ok (.iadd, 1) := by decide +kernel
theorem dJ6_bitCount_0f7a4_40 : decode cJ6_bitCount_0f7a4 40 = .ok (.istore_n 0, 1) := by decide +kernel
theorem dJ6_bitCount_0f7a4_41 : decode cJ6_bitCount_0f7a4 41 = .ok (.iload_n 0, 1) := by decide +kernel
theorem dJ6_bitCount_0f7a4_42 : decode cJ6_bitCount_0f7a4 42 = .ok (.iload_n 0, 1) := by decide +kernel
theorem dJ6_bitCount_0f7a4_43 : decode cJ6_bitCount_0f7a4 43 = .ok (.bipush 16, 2) := by decide +kernel
theorem dJ6_bitCount_0f7a4_45 : decode cJ6_bitCount_0f7a4 45 = .ok (.iushr, 1) := by decide +kernel
theorem dJ6_bitCount_0f7a4_46 : decode cJ6_bitCount_0f7a4 46 = .ok (.iadd, 1) := by decide +kernel
theorem dJ6_bitCount_0f7a4_47 : decode cJ6_bitCount_0f7a4 47 = .ok (.istore_n 0, 1) := by decide +kernel
theorem dJ6_bitCount_0f7a4_48 : decode cJ6_bitCount_0f7a4 48 = .ok (.iload_n 0, 1) := by decide +kernel
theorem dJ6_bitCount_0f7a4_49 : decode cJ6_bitCount_0f7a4 49 = .ok (.bipush 63, 2) := by decide +kernel
theorem dJ6_bitCount_0f7a4_51 : decode cJ6_bitCount_0f7a4 51 = .ok (.iand, 1) := by decide +kernel
theorem dJ6_bitCount_0f7a4_52 : decode cJ6_bitCount_0f7a4 52 = .ok (.ireturn, 1) := by decide +kernel
theorem dJ9_max_7cf53_0 : decode cJ9_max_7cf53 0 = .ok (.iload_n 0, 1) := by decide +kernel
theorem dJ9_max_7cf53_1 : decode cJ9_max_7cf53 1 = .ok (.iload_n 1, 1) := by decide +kernel
theorem dJ9_max_7cf53_2 : decode cJ9_max_7cf53 2 = .ok (.if_icmp .lt 7, 3) := by decide +kernel
theorem dJ9_max_7cf53_5 : decode cJ9_max_7cf53 5 = .ok (.iload_n 0, 1) := by decide +kernel
theorem dJ9_max_7cf53_6 : decode cJ9_max_7cf53 6 = .ok (.goto 4, 3) := by decide +kernel
theorem dJ9_max_7cf53_9 : decode cJ9_max_7cf53 9 = .ok (.iload_n 1, 1) := by decide +kernel
theorem dJ9_max_7cf53_10 : decode cJ9_max_7cf53 10 = .ok (.ireturn, 1) := by decide +kernel
theorem dJ9_min_7cf53_0 : decode cJ9_min_7cf53 0 = .ok (.iload_n 0, 1) := by decide +kernel
theorem dJ9_min_7cf53_1 : decode cJ9_min_7cf53 1 = .ok (.iload_n 1, 1) := by decide +kernel
theorem dJ9_min_7cf53_2 : decode cJ9_min_7cf53 2 = .ok (.if_icmp .gt 7, 3) := by decide +kernel
theorem dJ9_min_7cf53_5 : decode cJ9_min_7cf53 5 = .ok (.iload_n 0, 1) := by decide +kernel
theorem dJ9_min_7cf53_6 : decode cJ9_min_7cf53 6 = .ok (.goto 4, 3) := by decide +kernel
theorem dJ9_min_7cf53_9 : decode cJ9_min_7cf53 9 = .ok (.iload_n 1, 1) := by decide +kernel
theorem dJ9_min_7cf53_10 : decode cJ9_min_7cf53 10 = .ok (.ireturn, 1) := by decide +kernel
set_option maxRecDepth 20000 in
theorem ggL_addHeading_X1_addHeading : GoodIn wsL_addHeading wsX1_addHeading := goodIn_ca (goodIn_r _ [6, 7, 8, 9, 10, 11, 12, 13, 14, 15, 16, 17, 18, 19] (by decide +kernel) (by decide +kernel)) (goodIn_sub (fun _ h => List.mem_cons_of_mem _ (List.mem_append_right _ h)) (by decide +kernel))
set_option maxRecDepth 20000 in
theorem gL_addHeading_X1_addHeading : GoodIn wsL_addHeading (wsV RL 7 RX1 yX1_addHeading wsX1_addHeading) := goodIn_app (goodIn_of _ (by decide +kernel)) ggL_addHeading_X1_addHeading
theorem dL_addHeading_0 : decode cL_addHeading 0 = .ok (.aload_n 1, 1) := by decide +kernel
theorem dL_addHeading_1 : decode cL_addHeading 1 = .ok (.iconst 0, 1) := by decide +kernel
theorem dL_addHeading_2 : decode cL_addHeading 2 = .ok (.aload_n 0, 1) := by decide +kernel
theorem dL_addHeading_3 : decode cL_addHeading 3 = .ok (.invokevirtual 7, 3) := by decide +kernel
theorem dL_addHeading_6 : decode cL_addHeading 6 = .ok (.i2l, 1) := by decide +kernel
theorem dL_addHeading_7 : decode cL_addHeading 7 = .ok (.lastore, 1) := by decide +kernel
theorem dL_addHeading_8 : decode cL_addHeading 8 = .ok (.goto 6, 3) := by decide +kernel
theorem dL_addHeading_11 : decode cL_addHeading 11 = .ok (.astore_n 2, 1) := by decide +kernel
theorem dL_addHeading_12 : decode cL_addHeading 12 = .ok (.iconst 1, 1) := by decide +kernel
theorem dL_addHeading_13 : decode cL_addHeading 13 = .ok (.ireturn, 1) := by decide +kernel
theorem dL_addHeading_14 : decode cL_addHeading 14 = .ok (.iconst 0, 1) := by decide +kernel
theorem dL_addHeading_15 : decode cL_addHeading 15 = .ok (.ireturn, 1) := by decide +kernel
set_option maxRecDepth 20000 in
theorem ggL_addPages_X1_addPages : GoodIn wsL_addPages wsX1_addPages := goodIn_ca (goodIn_ca (goodIn_ca (goodIn_r _ [8, 9, 10, 11, 12, 13, 14, 15, 7, 16, 17, 18, 19, 20, 21, 22, 23, 24, 25, 26, 27, 28, 29, 30, 31, 32, 33, 34, 35, 36, 37, 38, 39, 40, 41, 42, 43, 44, 45, 46, 47, 48, 49, 50, 51, 52, 53, 54, 55, 56, 57, 58, 59, 60, 61, 62, 63, 64, 65, 66, 67, 68, 69, 70, 71, 72, 73, 74, 75, 76, 77, 78, 79, 80, 81, 82, 83, 84, 85, 86, 87, 88, 89, 90, 91, 92, 93, 94, 95, 96, 97] (by decide +kernel) (by decide +kernel)) (goodIn_sub (fun _ h => List.mem_cons_of_mem _ (List.mem_append_left _ (List.mem_append_left _ (List.mem_append_right _ h)))) (by decide +kernel))) (goodIn_sub (fun _ h => List.mem_cons_of_mem _ (List.mem_append_left _ (List.mem_append_right _ h))) (by decide +kernel))) (goodIn_sub (fun _ h => List.mem_cons_of_mem _ (List.mem_append_right _ h)) (by decide +kernel))
set_option maxRecDepth 20000 in
theorem gL_addPages_X1_addPages : GoodIn wsL_addPages (wsV RL 15 RX1 yX1_addPages wsX1_addPages) := goodIn_app (goodIn_of _ (by decide +kernel)) ggL_addPages_X1_addPages
theorem dL_addPages_0 : decode cL_addPages 0 = .ok (.aload 4, 2) := by decide +kernel
theorem dL_addPages_2 : decode cL_addPages 2 = .ok (.iconst 0, 1) := by decide +kernel
theorem dL_addPages_3 : decode cL_addPages 3 = .ok (.aload_n 0, 1) := by decide +kernel
theorem dL_addPages_4 : decode cL_addPages 4 = .ok (.iload_n 1, 1) := by decide +kernel
theorem dL_addPages_5 : decode cL_addPages 5 = .ok (.iload_n 2, 1) := by decide +kernel
theorem dL_addPages_6 : decode cL_addPages 6 = .ok (.iload_n 3, 1) := by decide +kernel
theorem dL_addPages_7 : decode cL_addPages 7 = .ok (.invokevirtual 15, 3) := by decide +kernel
theorem dL_addPages_10 : decode cL_addPages 10 = .ok (.i2l, 1) := by decide +kernel
theorem dL_addPages_11 : decode cL_addPages 11 = .ok (.lastore, 1) := by decide +kernel
theorem dL_addPages_12 : decode cL_addPages 12 = .ok (.goto 15, 3) := by decide +kernel
theorem dL_addPages_15 : decode cL_addPages 15 = .ok (.astore 5, 2) := by decide +kernel
theorem dL_addPages_17 : decode cL_addPages 17 = .ok (.iconst 1, 1) := by decide +kernel
theorem dL_addPages_18 : decode cL_addPages 18 = .ok (.ireturn, 1) := by decide +kernel
theorem dL_addPages_19 : decode cL_addPages 19 = .ok (.astore 5, 2) := by decide +kernel
theorem dL_addPages_21 : decode cL_addPages 21 = .ok (.iconst 2, 1) := by decide +kernel
theorem dL_addPages_22 : decode cL_addPages 22 = .ok (.ireturn, 1) := by decide +kernel
theorem dL_addPages_23 : decode cL_addPages 23 = .ok (.astore 5, 2) := by decide +kernel
theorem dL_addPages_25 : decode cL_addPages 25 = .ok (.iconst 3, 1) := by decide +kernel
theorem dL_addPages_26 : decode cL_addPages 26 = .ok (.ireturn, 1) := by decide +kernel
theorem dL_addPages_27 : decode cL_addPages 27 = .ok (.iconst 0, 1) := by decide +kernel
theorem dL_addPages_28 : decode cL_addPages 28 = .ok (.ireturn, 1) := by decide +kernel
set_option maxRecDepth 20000 in
theorem ggL_takePages_X1_takePages : GoodIn wsL_takePages wsX1_takePages := goodIn_ca (goodIn_ca (goodIn_ca (goodIn_r _ [8, 9, 10, 11, 12, 7, 13, 14, 15, 16, 17, 18, 19, 20, 21, 22, 23, 24, 25, 26, 27, 28, 29, 30, 31, 32, 33, 34, 35, 36, 37, 38, 39, 40, 41, 42, 43, 44, 45, 46, 47, 48, 49, 50, 51, 52, 53, 54, 55, 56, 57, 58, 59, 60, 61, 62, 63, 64, 65, 66, 67, 68, 69, 70, 71, 72, 73, 74, 75, 76, 77, 78, 79, 80, 81, 82, 83, 84, 85, 86, 87, 88, 89, 90] (by decide +kernel) (by decide +kernel)) (goodIn_sub (fun _ h => List.mem_cons_of_mem _ (List.mem_append_left _ (List.mem_append_left _ (List.mem_append_right _ h)))) (by decide +kernel))) (goodIn_sub (fun _ h => List.mem_cons_of_mem _ (List.mem_append_left _ (List.mem_append_right _ h))) (by decide +kernel))) (goodIn_sub (fun _ h => List.mem_cons_of_mem _ (List.mem_append_right _ h)) (by decide +kernel))
set_option maxRecDepth 20000 in
theorem gL_takePages_X1_takePages : GoodIn wsL_takePages (wsV RL 23 RX1 yX1_takePages wsX1_takePages) := goodIn_app (goodIn_of _ (by decide +kernel)) ggL_takePages_X1_takePages
theorem dL_takePages_0 : decode cL_takePages 0 = .ok (.aload 4, 2) := by decide +kernel
theorem dL_takePages_2 : decode cL_takePages 2 = .ok (.iconst 0, 1) := by decide +kernel
theorem dL_takePages_3 : decode cL_takePages 3 = .ok (.aload_n 0, 1) := by decide +kernel
theorem dL_takePages_4 : decode cL_takePages 4 = .ok (.iload_n 1, 1) := by decide +kernel
theorem dL_takePages_5 : decode cL_takePages 5 = .ok (.iload_n 2, 1) := by decide +kernel
theorem dL_takePages_6 : decode cL_takePages 6 = .ok (.iload_n 3, 1) := by decide +kernel
theorem dL_takePages_7 : decode cL_takePages 7 = .ok (.invokevirtual 23, 3) := by decide +kernel
theorem dL_takePages_10 : decode cL_takePages 10 = .ok (.i2l, 1) := by decide +kernel
theorem dL_takePages_11 : decode cL_takePages 11 = .ok (.lastore, 1) := by decide +kernel
theorem dL_takePages_12 : decode cL_takePages 12 = .ok (.goto 15, 3) := by decide +kernel
theorem dL_takePages_15 : decode cL_takePages 15 = .ok (.astore 5, 2) := by decide +kernel
theorem dL_takePages_17 : decode cL_takePages 17 = .ok (.iconst 1, 1) := by decide +kernel
theorem dL_takePages_18 : decode cL_takePages 18 = .ok (.ireturn, 1) := by decide +kernel
theorem dL_takePages_19 : decode cL_takePages 19 = .ok (.astore 5, 2) := by decide +kernel
theorem dL_takePages_21 : decode cL_takePages 21 = .ok (.iconst 2, 1) := by decide +kernel
theorem dL_takePages_22 : decode cL_takePages 22 = .ok (.ireturn, 1) := by decide +kernel
theorem dL_takePages_23 : decode cL_takePages 23 = .ok (.astore 5, 2) := by decide +kernel
theorem dL_takePages_25 : decode cL_takePages 25 = .ok (.iconst 3, 1) := by decide +kernel
theorem dL_takePages_26 : decode cL_takePages 26 = .ok (.ireturn, 1) := by decide +kernel
theorem dL_takePages_27 : decode cL_takePages 27 = .ok (.iconst 0, 1) := by decide +kernel
theorem dL_takePages_28 : decode cL_takePages 28 = .ok (.ireturn, 1) := by decide +kernel
set_option maxRecDepth 20000 in
theorem ggL_setSee_X1_setSee : GoodIn wsL_setSee wsX1_setSee := goodIn_ca (goodIn_ca (goodIn_ca (goodIn_r _ [8, 9, 10, 11, 12, 7, 13, 14, 15, 16, 17, 18, 19, 20, 21, 22, 23, 24, 25, 26, 27, 28, 29, 30, 31, 32, 33, 34, 35, 36, 37, 38, 39, 40, 41, 42, 43, 44, 45, 46, 47, 48, 49, 50, 51, 52, 53, 54, 55, 56] (by decide +kernel) (by decide +kernel)) (goodIn_sub (fun _ h => List.mem_cons_of_mem _ (List.mem_append_left _ (List.mem_append_left _ (List.mem_append_right _ h)))) (by decide +kernel))) (goodIn_sub (fun _ h => List.mem_cons_of_mem _ (List.mem_append_left _ (List.mem_append_right _ h))) (by decide +kernel))) (goodIn_sub (fun _ h => List.mem_cons_of_mem _ (List.mem_append_right _ h)) (by decide +kernel))
set_option maxRecDepth 20000 in
theorem gL_setSee_X1_setSee : GoodIn wsL_setSee (wsV RL 26 RX1 yX1_setSee wsX1_setSee) := goodIn_app (goodIn_of _ (by decide +kernel)) ggL_setSee_X1_setSee
theorem dL_setSee_0 : decode cL_setSee 0 = .ok (.aload_n 3, 1) := by decide +kernel
theorem dL_setSee_1 : decode cL_setSee 1 = .ok (.iconst 0, 1) := by decide +kernel
theorem dL_setSee_2 : decode cL_setSee 2 = .ok (.aload_n 0, 1) := by decide +kernel
theorem dL_setSee_3 : decode cL_setSee 3 = .ok (.iload_n 1, 1) := by decide +kernel
theorem dL_setSee_4 : decode cL_setSee 4 = .ok (.iload_n 2, 1) := by decide +kernel
theorem dL_setSee_5 : decode cL_setSee 5 = .ok (.invokevirtual 26, 3) := by decide +kernel
theorem dL_setSee_8 : decode cL_setSee 8 = .ok (.i2l, 1) := by decide +kernel
theorem dL_setSee_9 : decode cL_setSee 9 = .ok (.lastore, 1) := by decide +kernel
theorem dL_setSee_10 : decode cL_setSee 10 = .ok (.goto 15, 3) := by decide +kernel
theorem dL_setSee_13 : decode cL_setSee 13 = .ok (.astore 4, 2) := by decide +kernel
theorem dL_setSee_15 : decode cL_setSee 15 = .ok (.iconst 1, 1) := by decide +kernel
theorem dL_setSee_16 : decode cL_setSee 16 = .ok (.ireturn, 1) := by decide +kernel
theorem dL_setSee_17 : decode cL_setSee 17 = .ok (.astore 4, 2) := by decide +kernel
theorem dL_setSee_19 : decode cL_setSee 19 = .ok (.iconst 2, 1) := by decide +kernel
theorem dL_setSee_20 : decode cL_setSee 20 = .ok (.ireturn, 1) := by decide +kernel
theorem dL_setSee_21 : decode cL_setSee 21 = .ok (.astore 4, 2) := by decide +kernel
theorem dL_setSee_23 : decode cL_setSee 23 = .ok (.iconst 3, 1) := by decide +kernel
theorem dL_setSee_24 : decode cL_setSee 24 = .ok (.ireturn, 1) := by decide +kernel
theorem dL_setSee_25 : decode cL_setSee 25 = .ok (.iconst 0, 1) := by decide +kernel
theorem dL_setSee_26 : decode cL_setSee 26 = .ok (.ireturn, 1) := by decide +kernel
set_option maxRecDepth 20000 in
theorem ggL_turnSeeAlso_X1_turnSeeAlso : GoodIn wsL_turnSeeAlso wsX1_turnSeeAlso := goodIn_ca (goodIn_ca (goodIn_ca (goodIn_r _ [8, 9, 10, 11, 12, 13, 14, 7, 15, 16, 17, 18, 19, 20, 21, 22, 23, 24, 25, 26, 27, 28, 29, 30, 31, 32, 33, 34, 35, 36, 37, 38, 39, 40, 41, 42, 43, 44, 45, 46, 47] (by decide +kernel) (by decide +kernel)) (goodIn_sub (fun _ h => List.mem_cons_of_mem _ (List.mem_append_left _ (List.mem_append_left _ (List.mem_append_right _ h)))) (by decide +kernel))) (goodIn_sub (fun _ h => List.mem_cons_of_mem _ (List.mem_append_left _ (List.mem_append_right _ h))) (by decide +kernel))) (goodIn_sub (fun _ h => List.mem_cons_of_mem _ (List.mem_append_right _ h)) (by decide +kernel))
set_option maxRecDepth 20000 in
theorem gL_turnSeeAlso_X1_turnSeeAlso : GoodIn wsL_turnSeeAlso (wsV RL 30 RX1 yX1_turnSeeAlso wsX1_turnSeeAlso) := goodIn_app (goodIn_of _ (by decide +kernel)) ggL_turnSeeAlso_X1_turnSeeAlso
theorem dL_turnSeeAlso_0 : decode cL_turnSeeAlso 0 = .ok (.aload_n 3, 1) := by decide +kernel
theorem dL_turnSeeAlso_1 : decode cL_turnSeeAlso 1 = .ok (.iconst 0, 1) := by decide +kernel
theorem dL_turnSeeAlso_2 : decode cL_turnSeeAlso 2 = .ok (.aload_n 0, 1) := by decide +kernel
theorem dL_turnSeeAlso_3 : decode cL_turnSeeAlso 3 = .ok (.iload_n 1, 1) := by decide +kernel
theorem dL_turnSeeAlso_4 : decode cL_turnSeeAlso 4 = .ok (.iload_n 2, 1) := by decide +kernel
theorem dL_turnSeeAlso_5 : decode cL_turnSeeAlso 5 = .ok (.invokevirtual 30, 3) := by decide +kernel
theorem dL_turnSeeAlso_8 : decode cL_turnSeeAlso 8 = .ok (.i2l, 1) := by decide +kernel
theorem dL_turnSeeAlso_9 : decode cL_turnSeeAlso 9 = .ok (.lastore, 1) := by decide +kernel
theorem dL_turnSeeAlso_10 : decode cL_turnSeeAlso 10 = .ok (.goto 15, 3) := by decide +kernel
theorem dL_turnSeeAlso_13 : decode cL_turnSeeAlso 13 = .ok (.astore 4, 2) := by decide +kernel
theorem dL_turnSeeAlso_15 : decode cL_turnSeeAlso 15 = .ok (.iconst 1, 1) := by decide +kernel
theorem dL_turnSeeAlso_16 : decode cL_turnSeeAlso 16 = .ok (.ireturn, 1) := by decide +kernel
theorem dL_turnSeeAlso_17 : decode cL_turnSeeAlso 17 = .ok (.astore 4, 2) := by decide +kernel
theorem dL_turnSeeAlso_19 : decode cL_turnSeeAlso 19 = .ok (.iconst 2, 1) := by decide +kernel
theorem dL_turnSeeAlso_20 : decode cL_turnSeeAlso 20 = .ok (.ireturn, 1) := by decide +kernel
theorem dL_turnSeeAlso_21 : decode cL_turnSeeAlso 21 = .ok (.astore 4, 2) := by decide +kernel
theorem dL_turnSeeAlso_23 : decode cL_turnSeeAlso 23 = .ok (.iconst 3, 1) := by decide +kernel
theorem dL_turnSeeAlso_24 : decode cL_turnSeeAlso 24 = .ok (.ireturn, 1) := by decide +kernel
theorem dL_turnSeeAlso_25 : decode cL_turnSeeAlso 25 = .ok (.iconst 0, 1) := by decide +kernel
theorem dL_turnSeeAlso_26 : decode cL_turnSeeAlso 26 = .ok (.ireturn, 1) := by decide +kernel
set_option maxRecDepth 20000 in
theorem ggL_putIn_X1_putIn : GoodIn wsL_putIn wsX1_putIn := goodIn_ca (goodIn_ca (goodIn_r _ [7, 8, 9, 10, 11, 12, 13, 14, 15, 16, 6, 17, 18, 19, 20, 21, 22, 23, 24, 25, 26, 27, 28, 29, 30, 31, 32, 33, 34, 35, 36, 37, 38, 39, 40, 41, 42, 43] (by decide +kernel) (by decide +kernel)) (goodIn_sub (fun _ h => List.mem_cons_of_mem _ (List.mem_append_left _ (List.mem_append_right _ h))) (by decide +kernel))) (goodIn_sub (fun _ h => List.mem_cons_of_mem _ (List.mem_append_right _ h)) (by decide +kernel))
set_option maxRecDepth 20000 in
theorem gL_putIn_X1_putIn : GoodIn wsL_putIn (wsV RL 33 RX1 yX1_putIn wsX1_putIn) := goodIn_app (goodIn_of _ (by decide +kernel)) ggL_putIn_X1_putIn
theorem dL_putIn_0 : decode cL_putIn 0 = .ok (.aload_n 3, 1) := by decide +kernel
theorem dL_putIn_1 : decode cL_putIn 1 = .ok (.iconst 0, 1) := by decide +kernel
theorem dL_putIn_2 : decode cL_putIn 2 = .ok (.aload_n 0, 1) := by decide +kernel
theorem dL_putIn_3 : decode cL_putIn 3 = .ok (.iload_n 1, 1) := by decide +kernel
theorem dL_putIn_4 : decode cL_putIn 4 = .ok (.iload_n 2, 1) := by decide +kernel
theorem dL_putIn_5 : decode cL_putIn 5 = .ok (.invokevirtual 33, 3) := by decide +kernel
theorem dL_putIn_8 : decode cL_putIn 8 = .ok (.i2l, 1) := by decide +kernel
theorem dL_putIn_9 : decode cL_putIn 9 = .ok (.lastore, 1) := by decide +kernel
theorem dL_putIn_10 : decode cL_putIn 10 = .ok (.goto 11, 3) := by decide +kernel
theorem dL_putIn_13 : decode cL_putIn 13 = .ok (.astore 4, 2) := by decide +kernel
theorem dL_putIn_15 : decode cL_putIn 15 = .ok (.iconst 1, 1) := by decide +kernel
theorem dL_putIn_16 : decode cL_putIn 16 = .ok (.ireturn, 1) := by decide +kernel
theorem dL_putIn_17 : decode cL_putIn 17 = .ok (.astore 4, 2) := by decide +kernel
theorem dL_putIn_19 : decode cL_putIn 19 = .ok (.iconst 2, 1) := by decide +kernel
theorem dL_putIn_20 : decode cL_putIn 20 = .ok (.ireturn, 1) := by decide +kernel
theorem dL_putIn_21 : decode cL_putIn 21 = .ok (.iconst 0, 1) := by decide +kernel
theorem dL_putIn_22 : decode cL_putIn 22 = .ok (.ireturn, 1) := by decide +kernel
set_option maxRecDepth 20000 in
theorem ggL_takeOut_X1_takeOut : GoodIn wsL_takeOut wsX1_takeOut := goodIn_ca (goodIn_ca (goodIn_r _ [7, 8, 9, 10, 11, 12, 13, 14, 15, 6, 16, 17, 18, 19, 20, 21, 22, 23, 24, 25, 26, 27, 28, 29, 30, 31, 32, 33, 34, 35, 36, 37, 38, 39, 40, 41, 42, 43, 44, 45, 46, 47, 48, 49, 50, 51, 52, 53, 54, 55, 56, 57, 58, 59, 60, 61, 62, 63, 64, 65, 66, 67, 68, 69, 70, 71, 72, 73, 74, 75, 76] (by decide +kernel) (by decide +kernel)) (goodIn_sub (fun _ h => List.mem_cons_of_mem _ (List.mem_append_left _ (List.mem_append_right _ h))) (by decide +kernel))) (goodIn_sub (fun _ h => List.mem_cons_of_mem _ (List.mem_append_right _ h)) (by decide +kernel))
set_option maxRecDepth 20000 in
theorem gL_takeOut_X1_takeOut : GoodIn wsL_takeOut (wsV RL 36 RX1 yX1_takeOut wsX1_takeOut) := goodIn_app (goodIn_of _ (by decide +kernel)) ggL_takeOut_X1_takeOut
theorem dL_takeOut_0 : decode cL_takeOut 0 = .ok (.aload_n 2, 1) := by decide +kernel
theorem dL_takeOut_1 : decode cL_takeOut 1 = .ok (.iconst 0, 1) := by decide +kernel
theorem dL_takeOut_2 : decode cL_takeOut 2 = .ok (.aload_n 0, 1) := by decide +kernel
theorem dL_takeOut_3 : decode cL_takeOut 3 = .ok (.iload_n 1, 1) := by decide +kernel
theorem dL_takeOut_4 : decode cL_takeOut 4 = .ok (.invokevirtual 36, 3) := by decide +kernel
theorem dL_takeOut_7 : decode cL_takeOut 7 = .ok (.i2l, 1) := by decide +kernel
theorem dL_takeOut_8 : decode cL_takeOut 8 = .ok (.lastore, 1) := by decide +kernel
theorem dL_takeOut_9 : decode cL_takeOut 9 = .ok (.goto 9, 3) := by decide +kernel
theorem dL_takeOut_12 : decode cL_takeOut 12 = .ok (.astore_n 3, 1) := by decide +kernel
theorem dL_takeOut_13 : decode cL_takeOut 13 = .ok (.iconst 1, 1) := by decide +kernel
theorem dL_takeOut_14 : decode cL_takeOut 14 = .ok (.ireturn, 1) := by decide +kernel
theorem dL_takeOut_15 : decode cL_takeOut 15 = .ok (.astore_n 3, 1) := by decide +kernel
theorem dL_takeOut_16 : decode cL_takeOut 16 = .ok (.iconst 2, 1) := by decide +kernel
theorem dL_takeOut_17 : decode cL_takeOut 17 = .ok (.ireturn, 1) := by decide +kernel
theorem dL_takeOut_18 : decode cL_takeOut 18 = .ok (.iconst 0, 1) := by decide +kernel
theorem dL_takeOut_19 : decode cL_takeOut 19 = .ok (.ireturn, 1) := by decide +kernel
set_option maxRecDepth 20000 in
theorem ggL_spansOf_X1_spansOf : GoodIn wsL_spansOf wsX1_spansOf := goodIn_ca (goodIn_r _ [6, 7, 8, 9, 5, 10, 11, 12, 13, 14, 15, 16, 17, 18, 19, 20, 21, 22, 23, 24, 25, 26, 27, 28, 29, 30, 31, 32, 33, 34, 35, 36, 37, 38, 39, 40, 41] (by decide +kernel) (by decide +kernel)) (goodIn_sub (fun _ h => List.mem_cons_of_mem _ (List.mem_append_right _ h)) (by decide +kernel))
set_option maxRecDepth 20000 in
theorem gL_spansOf_X1_spansOf : GoodIn wsL_spansOf (wsV RL 40 RX1 yX1_spansOf wsX1_spansOf) := goodIn_app (goodIn_of _ (by decide +kernel)) ggL_spansOf_X1_spansOf
theorem dL_spansOf_0 : decode cL_spansOf 0 = .ok (.aload_n 2, 1) := by decide +kernel
theorem dL_spansOf_1 : decode cL_spansOf 1 = .ok (.iconst 0, 1) := by decide +kernel
theorem dL_spansOf_2 : decode cL_spansOf 2 = .ok (.aload_n 0, 1) := by decide +kernel
theorem dL_spansOf_3 : decode cL_spansOf 3 = .ok (.iload_n 1, 1) := by decide +kernel
theorem dL_spansOf_4 : decode cL_spansOf 4 = .ok (.invokevirtual 40, 3) := by decide +kernel
theorem dL_spansOf_7 : decode cL_spansOf 7 = .ok (.i2l, 1) := by decide +kernel
theorem dL_spansOf_8 : decode cL_spansOf 8 = .ok (.lastore, 1) := by decide +kernel
theorem dL_spansOf_9 : decode cL_spansOf 9 = .ok (.goto 6, 3) := by decide +kernel
theorem dL_spansOf_12 : decode cL_spansOf 12 = .ok (.astore_n 3, 1) := by decide +kernel
theorem dL_spansOf_13 : decode cL_spansOf 13 = .ok (.iconst 1, 1) := by decide +kernel
theorem dL_spansOf_14 : decode cL_spansOf 14 = .ok (.ireturn, 1) := by decide +kernel
theorem dL_spansOf_15 : decode cL_spansOf 15 = .ok (.iconst 0, 1) := by decide +kernel
theorem dL_spansOf_16 : decode cL_spansOf 16 = .ok (.ireturn, 1) := by decide +kernel
set_option maxRecDepth 20000 in
theorem ggL_startOf_X1_startOf : GoodIn wsL_startOf wsX1_startOf := goodIn_ca (goodIn_r _ [6, 7, 8, 9, 5, 10, 11, 12, 13, 14, 15, 16, 17, 18, 19, 20, 21, 22, 23, 24, 25, 26, 27, 28, 29, 30, 31, 32, 33, 34, 35, 36, 37, 38, 39, 40, 41, 42, 43, 44, 45, 46, 47, 48, 49, 50] (by decide +kernel) (by decide +kernel)) (goodIn_sub (fun _ h => List.mem_cons_of_mem _ (List.mem_append_right _ h)) (by decide +kernel))
set_option maxRecDepth 20000 in
theorem gL_startOf_X1_startOf : GoodIn wsL_startOf (wsV RL 43 RX1 yX1_startOf wsX1_startOf) := goodIn_app (goodIn_of _ (by decide +kernel)) ggL_startOf_X1_startOf
theorem dL_startOf_0 : decode cL_startOf 0 = .ok (.aload_n 3, 1) := by decide +kernel
theorem dL_startOf_1 : decode cL_startOf 1 = .ok (.iconst 0, 1) := by decide +kernel
theorem dL_startOf_2 : decode cL_startOf 2 = .ok (.aload_n 0, 1) := by decide +kernel
theorem dL_startOf_3 : decode cL_startOf 3 = .ok (.iload_n 1, 1) := by decide +kernel
theorem dL_startOf_4 : decode cL_startOf 4 = .ok (.iload_n 2, 1) := by decide +kernel
theorem dL_startOf_5 : decode cL_startOf 5 = .ok (.invokevirtual 43, 3) := by decide +kernel
theorem dL_startOf_8 : decode cL_startOf 8 = .ok (.i2l, 1) := by decide +kernel
theorem dL_startOf_9 : decode cL_startOf 9 = .ok (.lastore, 1) := by decide +kernel
theorem dL_startOf_10 : decode cL_startOf 10 = .ok (.goto 7, 3) := by decide +kernel
theorem dL_startOf_13 : decode cL_startOf 13 = .ok (.astore 4, 2) := by decide +kernel
theorem dL_startOf_15 : decode cL_startOf 15 = .ok (.iconst 1, 1) := by decide +kernel
theorem dL_startOf_16 : decode cL_startOf 16 = .ok (.ireturn, 1) := by decide +kernel
theorem dL_startOf_17 : decode cL_startOf 17 = .ok (.iconst 0, 1) := by decide +kernel
theorem dL_startOf_18 : decode cL_startOf 18 = .ok (.ireturn, 1) := by decide +kernel
set_option maxRecDepth 20000 in
theorem ggL_endOf_X1_endOf : GoodIn wsL_endOf wsX1_endOf := goodIn_ca (goodIn_r _ [6, 7, 8, 9, 5, 10, 11, 12, 13, 14, 15, 16, 17, 18, 19, 20, 21, 22, 23, 24, 25, 26, 27, 28, 29, 30, 31, 32, 33, 34, 35, 36, 37, 38, 39, 40, 41, 42, 43, 44, 45, 46, 47, 48, 49, 50] (by decide +kernel) (by decide +kernel)) (goodIn_sub (fun _ h => List.mem_cons_of_mem _ (List.mem_append_right _ h)) (by decide +kernel))
set_option maxRecDepth 20000 in
theorem gL_endOf_X1_endOf : GoodIn wsL_endOf (wsV RL 46 RX1 yX1_endOf wsX1_endOf) := goodIn_app (goodIn_of _ (by decide +kernel)) ggL_endOf_X1_endOf
theorem dL_endOf_0 : decode cL_endOf 0 = .ok (.aload_n 3, 1) := by decide +kernel
theorem dL_endOf_1 : decode cL_endOf 1 = .ok (.iconst 0, 1) := by decide +kernel
theorem dL_endOf_2 : decode cL_endOf 2 = .ok (.aload_n 0, 1) := by decide +kernel
theorem dL_endOf_3 : decode cL_endOf 3 = .ok (.iload_n 1, 1) := by decide +kernel
theorem dL_endOf_4 : decode cL_endOf 4 = .ok (.iload_n 2, 1) := by decide +kernel
theorem dL_endOf_5 : decode cL_endOf 5 = .ok (.invokevirtual 46, 3) := by decide +kernel
theorem dL_endOf_8 : decode cL_endOf 8 = .ok (.i2l, 1) := by decide +kernel
theorem dL_endOf_9 : decode cL_endOf 9 = .ok (.lastore, 1) := by decide +kernel
theorem dL_endOf_10 : decode cL_endOf 10 = .ok (.goto 7, 3) := by decide +kernel
theorem dL_endOf_13 : decode cL_endOf 13 = .ok (.astore 4, 2) := by decide +kernel
theorem dL_endOf_15 : decode cL_endOf 15 = .ok (.iconst 1, 1) := by decide +kernel
theorem dL_endOf_16 : decode cL_endOf 16 = .ok (.ireturn, 1) := by decide +kernel
theorem dL_endOf_17 : decode cL_endOf 17 = .ok (.iconst 0, 1) := by decide +kernel
theorem dL_endOf_18 : decode cL_endOf 18 = .ok (.ireturn, 1) := by decide +kernel
set_option maxRecDepth 20000 in
theorem ggL_pagesOf_X1_pagesOf : GoodIn wsL_pagesOf wsX1_pagesOf := goodIn_ca (goodIn_r _ [6, 7, 8, 9, 5, 10, 11, 12, 13, 14, 15, 16, 17, 18, 19, 20, 21, 22, 23, 24, 25, 26, 27, 28, 29, 30, 31, 32, 33, 34, 35, 36, 37, 38, 39, 40, 41, 42, 43] (by decide +kernel) (by decide +kernel)) (goodIn_sub (fun _ h => List.mem_cons_of_mem _ (List.mem_append_right _ h)) (by decide +kernel))
set_option maxRecDepth 20000 in
theorem gL_pagesOf_X1_pagesOf : GoodIn wsL_pagesOf (wsV RL 49 RX1 yX1_pagesOf wsX1_pagesOf) := goodIn_app (goodIn_of _ (by decide +kernel)) ggL_pagesOf_X1_pagesOf
theorem dL_pagesOf_0 : decode cL_pagesOf 0 = .ok (.aload_n 2, 1) := by decide +kernel
theorem dL_pagesOf_1 : decode cL_pagesOf 1 = .ok (.iconst 0, 1) := by decide +kernel
theorem dL_pagesOf_2 : decode cL_pagesOf 2 = .ok (.aload_n 0, 1) := by decide +kernel
theorem dL_pagesOf_3 : decode cL_pagesOf 3 = .ok (.iload_n 1, 1) := by decide +kernel
theorem dL_pagesOf_4 : decode cL_pagesOf 4 = .ok (.invokevirtual 49, 3) := by decide +kernel
theorem dL_pagesOf_7 : decode cL_pagesOf 7 = .ok (.i2l, 1) := by decide +kernel
theorem dL_pagesOf_8 : decode cL_pagesOf 8 = .ok (.lastore, 1) := by decide +kernel
theorem dL_pagesOf_9 : decode cL_pagesOf 9 = .ok (.goto 6, 3) := by decide +kernel
theorem dL_pagesOf_12 : decode cL_pagesOf 12 = .ok (.astore_n 3, 1) := by decide +kernel
theorem dL_pagesOf_13 : decode cL_pagesOf 13 = .ok (.iconst 1, 1) := by decide +kernel
theorem dL_pagesOf_14 : decode cL_pagesOf 14 = .ok (.ireturn, 1) := by decide +kernel
theorem dL_pagesOf_15 : decode cL_pagesOf 15 = .ok (.iconst 0, 1) := by decide +kernel
theorem dL_pagesOf_16 : decode cL_pagesOf 16 = .ok (.ireturn, 1) := by decide +kernel
set_option maxRecDepth 20000 in
theorem ggL_seeOf_X1_seeOf : GoodIn wsL_seeOf wsX1_seeOf := goodIn_ca (goodIn_r _ [6, 7, 8, 9, 5, 10, 11, 12, 13, 14, 15, 16, 17, 18, 19, 20, 21, 22, 23, 24, 25, 26, 27, 28, 29, 30, 31] (by decide +kernel) (by decide +kernel)) (goodIn_sub (fun _ h => List.mem_cons_of_mem _ (List.mem_append_right _ h)) (by decide +kernel))
set_option maxRecDepth 20000 in
theorem gL_seeOf_X1_seeOf : GoodIn wsL_seeOf (wsV RL 52 RX1 yX1_seeOf wsX1_seeOf) := goodIn_app (goodIn_of _ (by decide +kernel)) ggL_seeOf_X1_seeOf
theorem dL_seeOf_0 : decode cL_seeOf 0 = .ok (.aload_n 2, 1) := by decide +kernel
theorem dL_seeOf_1 : decode cL_seeOf 1 = .ok (.iconst 0, 1) := by decide +kernel
theorem dL_seeOf_2 : decode cL_seeOf 2 = .ok (.aload_n 0, 1) := by decide +kernel
theorem dL_seeOf_3 : decode cL_seeOf 3 = .ok (.iload_n 1, 1) := by decide +kernel
theorem dL_seeOf_4 : decode cL_seeOf 4 = .ok (.invokevirtual 52, 3) := by decide +kernel
theorem dL_seeOf_7 : decode cL_seeOf 7 = .ok (.i2l, 1) := by decide +kernel
theorem dL_seeOf_8 : decode cL_seeOf 8 = .ok (.lastore, 1) := by decide +kernel
theorem dL_seeOf_9 : decode cL_seeOf 9 = .ok (.goto 6, 3) := by decide +kernel
theorem dL_seeOf_12 : decode cL_seeOf 12 = .ok (.astore_n 3, 1) := by decide +kernel
theorem dL_seeOf_13 : decode cL_seeOf 13 = .ok (.iconst 1, 1) := by decide +kernel
theorem dL_seeOf_14 : decode cL_seeOf 14 = .ok (.ireturn, 1) := by decide +kernel
theorem dL_seeOf_15 : decode cL_seeOf 15 = .ok (.iconst 0, 1) := by decide +kernel
theorem dL_seeOf_16 : decode cL_seeOf 16 = .ok (.ireturn, 1) := by decide +kernel
set_option maxRecDepth 20000 in
theorem ggL_seeAlsosOf_X1_seeAlsosOf : GoodIn wsL_seeAlsosOf wsX1_seeAlsosOf := goodIn_ca (goodIn_r _ [6, 7, 8, 9, 5, 10, 11, 12, 13, 14, 15, 16, 17, 18, 19, 20, 21, 22, 23, 24, 25, 26, 27, 28, 29, 30, 31, 32, 33, 34, 35, 36, 37, 38] (by decide +kernel) (by decide +kernel)) (goodIn_sub (fun _ h => List.mem_cons_of_mem _ (List.mem_append_right _ h)) (by decide +kernel))
set_option maxRecDepth 20000 in
theorem gL_seeAlsosOf_X1_seeAlsosOf : GoodIn wsL_seeAlsosOf (wsV RL 55 RX1 yX1_seeAlsosOf wsX1_seeAlsosOf) := goodIn_app (goodIn_of _ (by decide +kernel)) ggL_seeAlsosOf_X1_seeAlsosOf
theorem dL_seeAlsosOf_0 : decode cL_seeAlsosOf 0 = .ok (.aload_n 2, 1) := by decide +kernel
theorem dL_seeAlsosOf_1 : decode cL_seeAlsosOf 1 = .ok (.iconst 0, 1) := by decide +kernel
theorem dL_seeAlsosOf_2 : decode cL_seeAlsosOf 2 = .ok (.aload_n 0, 1) := by decide +kernel
theorem dL_seeAlsosOf_3 : decode cL_seeAlsosOf 3 = .ok (.iload_n 1, 1) := by decide +kernel
theorem dL_seeAlsosOf_4 : decode cL_seeAlsosOf 4 = .ok (.invokevirtual 55, 3) := by decide +kernel
theorem dL_seeAlsosOf_7 : decode cL_seeAlsosOf 7 = .ok (.i2l, 1) := by decide +kernel
theorem dL_seeAlsosOf_8 : decode cL_seeAlsosOf 8 = .ok (.lastore, 1) := by decide +kernel
theorem dL_seeAlsosOf_9 : decode cL_seeAlsosOf 9 = .ok (.goto 6, 3) := by decide +kernel
theorem dL_seeAlsosOf_12 : decode cL_seeAlsosOf 12 = .ok (.astore_n 3, 1) := by decide +kernel
theorem dL_seeAlsosOf_13 : decode cL_seeAlsosOf 13 = .ok (.iconst 1, 1) := by decide +kernel
theorem dL_seeAlsosOf_14 : decode cL_seeAlsosOf 14 = .ok (.ireturn, 1) := by decide +kernel
theorem dL_seeAlsosOf_15 : decode cL_seeAlsosOf 15 = .ok (.iconst 0, 1) := by decide +kernel
theorem dL_seeAlsosOf_16 : decode cL_seeAlsosOf 16 = .ok (.ireturn, 1) := by decide +kernel
set_option maxRecDepth 20000 in
theorem ggL_isOn_X1_isOn : GoodIn wsL_isOn wsX1_isOn := goodIn_ca (goodIn_ca (goodIn_r _ [7, 8, 9, 10, 6, 11, 12, 13, 14, 15, 16, 17, 18, 19, 20, 21, 22, 23, 24, 25, 26, 27, 28, 29, 30, 31, 32, 33, 34, 35, 36, 37, 38, 39, 40, 41, 42, 43, 44, 45, 46, 47, 48, 49, 50, 51] (by decide +kernel) (by decide +kernel)) (goodIn_sub (fun _ h => List.mem_cons_of_mem _ (List.mem_append_left _ (List.mem_append_right _ h))) (by decide +kernel))) (goodIn_sub (fun _ h => List.mem_cons_of_mem _ (List.mem_append_right _ h)) (by decide +kernel))
set_option maxRecDepth 20000 in
theorem gL_isOn_X1_isOn : GoodIn wsL_isOn (wsV RL 58 RX1 yX1_isOn wsX1_isOn) := goodIn_app (goodIn_of _ (by decide +kernel)) ggL_isOn_X1_isOn
theorem dL_isOn_0 : decode cL_isOn 0 = .ok (.aload_n 3, 1) := by decide +kernel
theorem dL_isOn_1 : decode cL_isOn 1 = .ok (.iconst 0, 1) := by decide +kernel
theorem dL_isOn_2 : decode cL_isOn 2 = .ok (.aload_n 0, 1) := by decide +kernel
theorem dL_isOn_3 : decode cL_isOn 3 = .ok (.iload_n 1, 1) := by decide +kernel
theorem dL_isOn_4 : decode cL_isOn 4 = .ok (.iload_n 2, 1) := by decide +kernel
theorem dL_isOn_5 : decode cL_isOn 5 = .ok (.invokevirtual 58, 3) := by decide +kernel
theorem dL_isOn_8 : decode cL_isOn 8 = .ok (.ifCond .eq 7, 3) := by decide +kernel
theorem dL_isOn_11 : decode cL_isOn 11 = .ok (.lconst 1, 1) := by decide +kernel
theorem dL_isOn_12 : decode cL_isOn 12 = .ok (.goto 4, 3) := by decide +kernel
theorem dL_isOn_15 : decode cL_isOn 15 = .ok (.lconst 0, 1) := by decide +kernel
theorem dL_isOn_16 : decode cL_isOn 16 = .ok (.lastore, 1) := by decide +kernel
theorem dL_isOn_17 : decode cL_isOn 17 = .ok (.goto 11, 3) := by decide +kernel
theorem dL_isOn_20 : decode cL_isOn 20 = .ok (.astore 4, 2) := by decide +kernel
theorem dL_isOn_22 : decode cL_isOn 22 = .ok (.iconst 1, 1) := by decide +kernel
theorem dL_isOn_23 : decode cL_isOn 23 = .ok (.ireturn, 1) := by decide +kernel
theorem dL_isOn_24 : decode cL_isOn 24 = .ok (.astore 4, 2) := by decide +kernel
theorem dL_isOn_26 : decode cL_isOn 26 = .ok (.iconst 2, 1) := by decide +kernel
theorem dL_isOn_27 : decode cL_isOn 27 = .ok (.ireturn, 1) := by decide +kernel
theorem dL_isOn_28 : decode cL_isOn 28 = .ok (.iconst 0, 1) := by decide +kernel
theorem dL_isOn_29 : decode cL_isOn 29 = .ok (.ireturn, 1) := by decide +kernel
set_option maxRecDepth 20000 in
theorem ggL_headingsOn_X1_headingsOn : GoodIn wsL_headingsOn wsX1_headingsOn := goodIn_ca (goodIn_r _ [6, 7, 8, 9, 5, 10, 11, 12, 13, 14, 15, 16, 17, 18, 19, 20, 21, 22, 23, 24, 25, 26, 27, 28, 29, 30, 31, 32, 33, 34, 35, 36, 37, 38, 39, 40, 41, 42, 43, 44, 45, 46, 47, 48] (by decide +kernel) (by decide +kernel)) (goodIn_sub (fun _ h => List.mem_cons_of_mem _ (List.mem_append_right _ h)) (by decide +kernel))
set_option maxRecDepth 20000 in
theorem gL_headingsOn_X1_headingsOn : GoodIn wsL_headingsOn (wsV RL 62 RX1 yX1_headingsOn wsX1_headingsOn) := goodIn_app (goodIn_of _ (by decide +kernel)) ggL_headingsOn_X1_headingsOn
theorem dL_headingsOn_0 : decode cL_headingsOn 0 = .ok (.aload_n 2, 1) := by decide +kernel
theorem dL_headingsOn_1 : decode cL_headingsOn 1 = .ok (.iconst 0, 1) := by decide +kernel
theorem dL_headingsOn_2 : decode cL_headingsOn 2 = .ok (.aload_n 0, 1) := by decide +kernel
theorem dL_headingsOn_3 : decode cL_headingsOn 3 = .ok (.iload_n 1, 1) := by decide +kernel
theorem dL_headingsOn_4 : decode cL_headingsOn 4 = .ok (.invokevirtual 62, 3) := by decide +kernel
theorem dL_headingsOn_7 : decode cL_headingsOn 7 = .ok (.i2l, 1) := by decide +kernel
theorem dL_headingsOn_8 : decode cL_headingsOn 8 = .ok (.lastore, 1) := by decide +kernel
theorem dL_headingsOn_9 : decode cL_headingsOn 9 = .ok (.goto 6, 3) := by decide +kernel
theorem dL_headingsOn_12 : decode cL_headingsOn 12 = .ok (.astore_n 3, 1) := by decide +kernel
theorem dL_headingsOn_13 : decode cL_headingsOn 13 = .ok (.iconst 1, 1) := by decide +kernel
theorem dL_headingsOn_14 : decode cL_headingsOn 14 = .ok (.ireturn, 1) := by decide +kernel
theorem dL_headingsOn_15 : decode cL_headingsOn 15 = .ok (.iconst 0, 1) := by decide +kernel
theorem dL_headingsOn_16 : decode cL_headingsOn 16 = .ok (.ireturn, 1) := by decide +kernel
set_option maxRecDepth 20000 in
theorem ggL_leadsTo_X1_leadsTo : GoodIn wsL_leadsTo wsX1_leadsTo := goodIn_ca (goodIn_r _ [6, 7, 8, 9, 5, 10, 11, 12, 13, 14, 15, 16, 17, 18, 19, 20, 21, 22, 23, 24, 25, 26, 27, 28, 29, 30, 31, 32, 33, 34, 35] (by decide +kernel) (by decide +kernel)) (goodIn_sub (fun _ h => List.mem_cons_of_mem _ (List.mem_append_right _ h)) (by decide +kernel))
set_option maxRecDepth 20000 in
theorem gL_leadsTo_X1_leadsTo : GoodIn wsL_leadsTo (wsV RL 65 RX1 yX1_leadsTo wsX1_leadsTo) := goodIn_app (goodIn_of _ (by decide +kernel)) ggL_leadsTo_X1_leadsTo
theorem dL_leadsTo_0 : decode cL_leadsTo 0 = .ok (.aload_n 2, 1) := by decide +kernel
theorem dL_leadsTo_1 : decode cL_leadsTo 1 = .ok (.iconst 0, 1) := by decide +kernel
theorem dL_leadsTo_2 : decode cL_leadsTo 2 = .ok (.aload_n 0, 1) := by decide +kernel
theorem dL_leadsTo_3 : decode cL_leadsTo 3 = .ok (.iload_n 1, 1) := by decide +kernel
theorem dL_leadsTo_4 : decode cL_leadsTo 4 = .ok (.invokevirtual 65, 3) := by decide +kernel
theorem dL_leadsTo_7 : decode cL_leadsTo 7 = .ok (.i2l, 1) := by decide +kernel
theorem dL_leadsTo_8 : decode cL_leadsTo 8 = .ok (.lastore, 1) := by decide +kernel
theorem dL_leadsTo_9 : decode cL_leadsTo 9 = .ok (.goto 6, 3) := by decide +kernel
theorem dL_leadsTo_12 : decode cL_leadsTo 12 = .ok (.astore_n 3, 1) := by decide +kernel
theorem dL_leadsTo_13 : decode cL_leadsTo 13 = .ok (.iconst 1, 1) := by decide +kernel
theorem dL_leadsTo_14 : decode cL_leadsTo 14 = .ok (.ireturn, 1) := by decide +kernel
theorem dL_leadsTo_15 : decode cL_leadsTo 15 = .ok (.iconst 0, 1) := by decide +kernel
theorem dL_leadsTo_16 : decode cL_leadsTo 16 = .ok (.ireturn, 1) := by decide +kernel
set_option maxRecDepth 20000 in
theorem ggL_steps_X1_steps : GoodIn wsL_steps wsX1_steps := goodIn_ca (goodIn_r _ [6, 7, 8, 9, 5, 10, 11, 12, 13, 14, 15, 16, 17, 18, 19, 20, 21, 22, 23, 24, 25, 26, 27, 28, 29, 30, 31, 32, 33, 34, 35] (by decide +kernel) (by decide +kernel)) (goodIn_sub (fun _ h => List.mem_cons_of_mem _ (List.mem_append_right _ h)) (by decide +kernel))
set_option maxRecDepth 20000 in
theorem gL_steps_X1_steps : GoodIn wsL_steps (wsV RL 68 RX1 yX1_steps wsX1_steps) := goodIn_app (goodIn_of _ (by decide +kernel)) ggL_steps_X1_steps
theorem dL_steps_0 : decode cL_steps 0 = .ok (.aload_n 3, 1) := by decide +kernel
theorem dL_steps_1 : decode cL_steps 1 = .ok (.iconst 0, 1) := by decide +kernel
theorem dL_steps_2 : decode cL_steps 2 = .ok (.aload_n 0, 1) := by decide +kernel
theorem dL_steps_3 : decode cL_steps 3 = .ok (.iload_n 1, 1) := by decide +kernel
theorem dL_steps_4 : decode cL_steps 4 = .ok (.iload_n 2, 1) := by decide +kernel
theorem dL_steps_5 : decode cL_steps 5 = .ok (.invokevirtual 68, 3) := by decide +kernel
theorem dL_steps_8 : decode cL_steps 8 = .ok (.i2l, 1) := by decide +kernel
theorem dL_steps_9 : decode cL_steps 9 = .ok (.lastore, 1) := by decide +kernel
theorem dL_steps_10 : decode cL_steps 10 = .ok (.goto 7, 3) := by decide +kernel
theorem dL_steps_13 : decode cL_steps 13 = .ok (.astore 4, 2) := by decide +kernel
theorem dL_steps_15 : decode cL_steps 15 = .ok (.iconst 1, 1) := by decide +kernel
theorem dL_steps_16 : decode cL_steps 16 = .ok (.ireturn, 1) := by decide +kernel
theorem dL_steps_17 : decode cL_steps 17 = .ok (.iconst 0, 1) := by decide +kernel
theorem dL_steps_18 : decode cL_steps 18 = .ok (.ireturn, 1) := by decide +kernel
set_option maxRecDepth 20000 in
theorem ggL_reachOf_X1_reachOf : GoodIn wsL_reachOf wsX1_reachOf := goodIn_ca (goodIn_r _ [6, 7, 8, 9, 5, 10, 11, 12, 13, 14, 15, 16, 17, 18, 19, 20, 21, 22, 23, 24, 25, 26, 27, 28, 29, 30, 31, 32, 33, 34, 35, 36, 37, 38, 39, 40, 41, 42, 43, 44, 45, 46, 47, 48, 49, 50] (by decide +kernel) (by decide +kernel)) (goodIn_sub (fun _ h => List.mem_cons_of_mem _ (List.mem_append_right _ h)) (by decide +kernel))
set_option maxRecDepth 20000 in
theorem gL_reachOf_X1_reachOf : GoodIn wsL_reachOf (wsV RL 71 RX1 yX1_reachOf wsX1_reachOf) := goodIn_app (goodIn_of _ (by decide +kernel)) ggL_reachOf_X1_reachOf
theorem dL_reachOf_0 : decode cL_reachOf 0 = .ok (.aload_n 2, 1) := by decide +kernel
theorem dL_reachOf_1 : decode cL_reachOf 1 = .ok (.iconst 0, 1) := by decide +kernel
theorem dL_reachOf_2 : decode cL_reachOf 2 = .ok (.aload_n 0, 1) := by decide +kernel
theorem dL_reachOf_3 : decode cL_reachOf 3 = .ok (.iload_n 1, 1) := by decide +kernel
theorem dL_reachOf_4 : decode cL_reachOf 4 = .ok (.invokevirtual 71, 3) := by decide +kernel
theorem dL_reachOf_7 : decode cL_reachOf 7 = .ok (.i2l, 1) := by decide +kernel
theorem dL_reachOf_8 : decode cL_reachOf 8 = .ok (.lastore, 1) := by decide +kernel
theorem dL_reachOf_9 : decode cL_reachOf 9 = .ok (.goto 6, 3) := by decide +kernel
theorem dL_reachOf_12 : decode cL_reachOf 12 = .ok (.astore_n 3, 1) := by decide +kernel
theorem dL_reachOf_13 : decode cL_reachOf 13 = .ok (.iconst 1, 1) := by decide +kernel
theorem dL_reachOf_14 : decode cL_reachOf 14 = .ok (.ireturn, 1) := by decide +kernel
theorem dL_reachOf_15 : decode cL_reachOf 15 = .ok (.iconst 0, 1) := by decide +kernel
theorem dL_reachOf_16 : decode cL_reachOf 16 = .ok (.ireturn, 1) := by decide +kernel
set_option maxRecDepth 20000 in
theorem ggL_isInRing_X1_isInRing : GoodIn wsL_isInRing wsX1_isInRing := goodIn_ca (goodIn_r _ [6, 7, 8, 9, 5, 10, 11, 12, 13, 14, 15, 16, 17, 18, 19, 20, 21, 22, 23, 24, 25, 26, 27, 28, 29, 30, 31, 32, 33, 34, 35, 36, 37, 38, 39, 40, 41, 42, 43] (by decide +kernel) (by decide +kernel)) (goodIn_sub (fun _ h => List.mem_cons_of_mem _ (List.mem_append_right _ h)) (by decide +kernel))
set_option maxRecDepth 20000 in
theorem gL_isInRing_X1_isInRing : GoodIn wsL_isInRing (wsV RL 74 RX1 yX1_isInRing wsX1_isInRing) := goodIn_app (goodIn_of _ (by decide +kernel)) ggL_isInRing_X1_isInRing
theorem dL_isInRing_0 : decode cL_isInRing 0 = .ok (.aload_n 2, 1) := by decide +kernel
theorem dL_isInRing_1 : decode cL_isInRing 1 = .ok (.iconst 0, 1) := by decide +kernel
theorem dL_isInRing_2 : decode cL_isInRing 2 = .ok (.aload_n 0, 1) := by decide +kernel
theorem dL_isInRing_3 : decode cL_isInRing 3 = .ok (.iload_n 1, 1) := by decide +kernel
theorem dL_isInRing_4 : decode cL_isInRing 4 = .ok (.invokevirtual 74, 3) := by decide +kernel
theorem dL_isInRing_7 : decode cL_isInRing 7 = .ok (.ifCond .eq 7, 3) := by decide +kernel
theorem dL_isInRing_10 : decode cL_isInRing 10 = .ok (.lconst 1, 1) := by decide +kernel
theorem dL_isInRing_11 : decode cL_isInRing 11 = .ok (.goto 4, 3) := by decide +kernel
theorem dL_isInRing_14 : decode cL_isInRing 14 = .ok (.lconst 0, 1) := by decide +kernel
theorem dL_isInRing_15 : decode cL_isInRing 15 = .ok (.lastore, 1) := by decide +kernel
theorem dL_isInRing_16 : decode cL_isInRing 16 = .ok (.goto 6, 3) := by decide +kernel
theorem dL_isInRing_19 : decode cL_isInRing 19 = .ok (.astore_n 3, 1) := by decide +kernel
theorem dL_isInRing_20 : decode cL_isInRing 20 = .ok (.iconst 1, 1) := by decide +kernel
theorem dL_isInRing_21 : decode cL_isInRing 21 = .ok (.ireturn, 1) := by decide +kernel
theorem dL_isInRing_22 : decode cL_isInRing 22 = .ok (.iconst 0, 1) := by decide +kernel
theorem dL_isInRing_23 : decode cL_isInRing 23 = .ok (.ireturn, 1) := by decide +kernel
set_option maxRecDepth 20000 in
theorem ggL_spansWithGap_X1_spansWithGap : GoodIn wsL_spansWithGap wsX1_spansWithGap := goodIn_ca (goodIn_ca (goodIn_r _ [7, 8, 9, 10, 11, 12, 13, 6, 14, 15, 16, 17, 18, 19, 20, 21, 22, 23, 24, 25, 26, 27, 28, 29, 30, 31, 32, 33, 34, 35, 36, 37, 38, 39, 40, 41, 42, 43, 44, 45, 46, 47, 48, 49, 50, 51, 52, 53, 54, 55, 56, 57, 58, 59] (by decide +kernel) (by decide +kernel)) (goodIn_sub (fun _ h => List.mem_cons_of_mem _ (List.mem_append_left _ (List.mem_append_right _ h))) (by decide +kernel))) (goodIn_sub (fun _ h => List.mem_cons_of_mem _ (List.mem_append_right _ h)) (by decide +kernel))
set_option maxRecDepth 20000 in
theorem gL_spansWithGap_X1_spansWithGap : GoodIn wsL_spansWithGap (wsV RL 78 RX1 yX1_spansWithGap wsX1_spansWithGap) := goodIn_app (goodIn_of _ (by decide +kernel)) ggL_spansWithGap_X1_spansWithGap
theorem dL_spansWithGap_0 : decode cL_spansWithGap 0 = .ok (.aload_n 3, 1) := by decide +kernel
theorem dL_spansWithGap_1 : decode cL_spansWithGap 1 = .ok (.iconst 0, 1) := by decide +kernel
theorem dL_spansWithGap_2 : decode cL_spansWithGap 2 = .ok (.aload_n 0, 1) := by decide +kernel
theorem dL_spansWithGap_3 : decode cL_spansWithGap 3 = .ok (.iload_n 1, 1) := by decide +kernel
theorem dL_spansWithGap_4 : decode cL_spansWithGap 4 = .ok (.iload_n 2, 1) := by decide +kernel
theorem dL_spansWithGap_5 : decode cL_spansWithGap 5 = .ok (.invokevirtual 78, 3) := by decide +kernel
theorem dL_spansWithGap_8 : decode cL_spansWithGap 8 = .ok (.i2l, 1) := by decide +kernel
theorem dL_spansWithGap_9 : decode cL_spansWithGap 9 = .ok (.lastore, 1) := by decide +kernel
theorem dL_spansWithGap_10 : decode cL_spansWithGap 10 = .ok (.goto 11, 3) := by decide +kernel
theorem dL_spansWithGap_13 : decode cL_spansWithGap 13 = .ok (.astore 4, 2) := by decide +kernel
theorem dL_spansWithGap_15 : decode cL_spansWithGap 15 = .ok (.iconst 1, 1) := by decide +kernel
theorem dL_spansWithGap_16 : decode cL_spansWithGap 16 = .ok (.ireturn, 1) := by decide +kernel
theorem dL_spansWithGap_17 : decode cL_spansWithGap 17 = .ok (.astore 4, 2) := by decide +kernel
theorem dL_spansWithGap_19 : decode cL_spansWithGap 19 = .ok (.iconst 2, 1) := by decide +kernel
theorem dL_spansWithGap_20 : decode cL_spansWithGap 20 = .ok (.ireturn, 1) := by decide +kernel
theorem dL_spansWithGap_21 : decode cL_spansWithGap 21 = .ok (.iconst 0, 1) := by decide +kernel
theorem dL_spansWithGap_22 : decode cL_spansWithGap 22 = .ok (.ireturn, 1) := by decide +kernel
set_option maxRecDepth 20000 in
theorem ggL_commonPages_X1_commonPages : GoodIn wsL_commonPages wsX1_commonPages := goodIn_ca (goodIn_r _ [6, 7, 8, 9, 5, 10, 11, 12, 13, 14, 15, 16, 17, 18, 19, 20, 21, 22, 23, 24, 25, 26, 27, 28, 29, 30, 31, 32, 33, 34, 35, 36, 37, 38, 39, 40, 41, 42, 43, 44, 45, 46, 47, 48, 49, 50] (by decide +kernel) (by decide +kernel)) (goodIn_sub (fun _ h => List.mem_cons_of_mem _ (List.mem_append_right _ h)) (by decide +kernel))
set_option maxRecDepth 20000 in
theorem gL_commonPages_X1_commonPages : GoodIn wsL_commonPages (wsV RL 81 RX1 yX1_commonPages wsX1_commonPages) := goodIn_app (goodIn_of _ (by decide +kernel)) ggL_commonPages_X1_commonPages
theorem dL_commonPages_0 : decode cL_commonPages 0 = .ok (.aload_n 3, 1) := by decide +kernel
theorem dL_commonPages_1 : decode cL_commonPages 1 = .ok (.iconst 0, 1) := by decide +kernel
theorem dL_commonPages_2 : decode cL_commonPages 2 = .ok (.aload_n 0, 1) := by decide +kernel
theorem dL_commonPages_3 : decode cL_commonPages 3 = .ok (.iload_n 1, 1) := by decide +kernel
theorem dL_commonPages_4 : decode cL_commonPages 4 = .ok (.iload_n 2, 1) := by decide +kernel
theorem dL_commonPages_5 : decode cL_commonPages 5 = .ok (.invokevirtual 81, 3) := by decide +kernel
theorem dL_commonPages_8 : decode cL_commonPages 8 = .ok (.i2l, 1) := by decide +kernel
theorem dL_commonPages_9 : decode cL_commonPages 9 = .ok (.lastore, 1) := by decide +kernel
theorem dL_commonPages_10 : decode cL_commonPages 10 = .ok (.goto 7, 3) := by decide +kernel
theorem dL_commonPages_13 : decode cL_commonPages 13 = .ok (.astore 4, 2) := by decide +kernel
theorem dL_commonPages_15 : decode cL_commonPages 15 = .ok (.iconst 1, 1) := by decide +kernel
theorem dL_commonPages_16 : decode cL_commonPages 16 = .ok (.ireturn, 1) := by decide +kernel
theorem dL_commonPages_17 : decode cL_commonPages 17 = .ok (.iconst 0, 1) := by decide +kernel
theorem dL_commonPages_18 : decode cL_commonPages 18 = .ok (.ireturn, 1) := by decide +kernel
set_option maxRecDepth 20000 in
theorem ggL_nearest_X1_nearest : GoodIn wsL_nearest wsX1_nearest := goodIn_ca (goodIn_r _ [6, 7, 8, 9, 5, 10, 11, 12, 13, 14, 15, 16, 17, 18, 19, 20, 21, 22, 23, 24, 25, 26, 27, 28, 29, 30, 31, 32, 33, 34, 35, 36, 37, 38, 39, 40, 41, 42, 43, 44, 45, 46, 47, 48, 49, 50, 51, 52, 53, 54] (by decide +kernel) (by decide +kernel)) (goodIn_sub (fun _ h => List.mem_cons_of_mem _ (List.mem_append_right _ h)) (by decide +kernel))
set_option maxRecDepth 20000 in
theorem gL_nearest_X1_nearest : GoodIn wsL_nearest (wsV RL 84 RX1 yX1_nearest wsX1_nearest) := goodIn_app (goodIn_of _ (by decide +kernel)) ggL_nearest_X1_nearest
theorem dL_nearest_0 : decode cL_nearest 0 = .ok (.aload_n 2, 1) := by decide +kernel
theorem dL_nearest_1 : decode cL_nearest 1 = .ok (.iconst 0, 1) := by decide +kernel
theorem dL_nearest_2 : decode cL_nearest 2 = .ok (.aload_n 0, 1) := by decide +kernel
theorem dL_nearest_3 : decode cL_nearest 3 = .ok (.iload_n 1, 1) := by decide +kernel
theorem dL_nearest_4 : decode cL_nearest 4 = .ok (.invokevirtual 84, 3) := by decide +kernel
theorem dL_nearest_7 : decode cL_nearest 7 = .ok (.i2l, 1) := by decide +kernel
theorem dL_nearest_8 : decode cL_nearest 8 = .ok (.lastore, 1) := by decide +kernel
theorem dL_nearest_9 : decode cL_nearest 9 = .ok (.goto 6, 3) := by decide +kernel
theorem dL_nearest_12 : decode cL_nearest 12 = .ok (.astore_n 3, 1) := by decide +kernel
theorem dL_nearest_13 : decode cL_nearest 13 = .ok (.iconst 1, 1) := by decide +kernel
theorem dL_nearest_14 : decode cL_nearest 14 = .ok (.ireturn, 1) := by decide +kernel
theorem dL_nearest_15 : decode cL_nearest 15 = .ok (.iconst 0, 1) := by decide +kernel
theorem dL_nearest_16 : decode cL_nearest 16 = .ok (.ireturn, 1) := by decide +kernel
set_option maxRecDepth 20000 in
theorem ggL_spansTogether_X1_spansTogether : GoodIn wsL_spansTogether wsX1_spansTogether := goodIn_ca (goodIn_r _ [6, 7, 8, 9, 10, 5, 11, 12, 13, 14, 15, 16, 17, 18, 19, 20, 21, 22, 23, 24, 25, 26, 27, 28, 29, 30, 31, 32, 33, 34, 35, 36, 37, 38, 39, 40, 41, 42, 43, 44, 45, 46, 47, 48, 49, 50, 51, 52, 53, 54, 55, 56, 57, 58, 59, 60, 61, 62, 63, 64] (by decide +kernel) (by decide +kernel)) (goodIn_sub (fun _ h => List.mem_cons_of_mem _ (List.mem_append_right _ h)) (by decide +kernel))
set_option maxRecDepth 20000 in
theorem gL_spansTogether_X1_spansTogether : GoodIn wsL_spansTogether (wsV RL 87 RX1 yX1_spansTogether wsX1_spansTogether) := goodIn_app (goodIn_of _ (by decide +kernel)) ggL_spansTogether_X1_spansTogether
theorem dL_spansTogether_0 : decode cL_spansTogether 0 = .ok (.aload_n 3, 1) := by decide +kernel
theorem dL_spansTogether_1 : decode cL_spansTogether 1 = .ok (.iconst 0, 1) := by decide +kernel
theorem dL_spansTogether_2 : decode cL_spansTogether 2 = .ok (.aload_n 0, 1) := by decide +kernel
theorem dL_spansTogether_3 : decode cL_spansTogether 3 = .ok (.iload_n 1, 1) := by decide +kernel
theorem dL_spansTogether_4 : decode cL_spansTogether 4 = .ok (.iload_n 2, 1) := by decide +kernel
theorem dL_spansTogether_5 : decode cL_spansTogether 5 = .ok (.invokevirtual 87, 3) := by decide +kernel
theorem dL_spansTogether_8 : decode cL_spansTogether 8 = .ok (.i2l, 1) := by decide +kernel
theorem dL_spansTogether_9 : decode cL_spansTogether 9 = .ok (.lastore, 1) := by decide +kernel
theorem dL_spansTogether_10 : decode cL_spansTogether 10 = .ok (.goto 7, 3) := by decide +kernel
theorem dL_spansTogether_13 : decode cL_spansTogether 13 = .ok (.astore 4, 2) := by decide +kernel
theorem dL_spansTogether_15 : decode cL_spansTogether 15 = .ok (.iconst 1, 1) := by decide +kernel
theorem dL_spansTogether_16 : decode cL_spansTogether 16 = .ok (.ireturn, 1) := by decide +kernel
theorem dL_spansTogether_17 : decode cL_spansTogether 17 = .ok (.iconst 0, 1) := by decide +kernel
theorem dL_spansTogether_18 : decode cL_spansTogether 18 = .ok (.ireturn, 1) := by decide +kernel
