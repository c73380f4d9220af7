set_option maxRecDepth 20000 in
theorem ggX2_addHeading_X2_no : GoodIn wsX2_addHeading wsX2_no := goodIn_r _ [8, 1, 9, 10, 11, 12, 13, 14] (by decide +kernel) (by decide +kernel)
set_option maxRecDepth 20000 in
theorem gX2_addHeading_X2_no : GoodIn wsX2_addHeading (wsV RX2 66 RX2 yX2_no wsX2_no) := goodIn_app (goodIn_of _ (by decide +kernel)) ggX2_addHeading_X2_no
theorem dX2_addHeading_0 : decode cX2_addHeading 0 = .ok (.aload_n 0, 1) := by decide +kernel
theorem dX2_addHeading_1 : decode cX2_addHeading 1 = .ok (.iconst 0, 1) := by decide +kernel
theorem dX2_addHeading_2 : decode cX2_addHeading 2 = .ok (.putfield 24, 3) := by decide +kernel
theorem dX2_addHeading_5 : decode cX2_addHeading 5 = .ok (.aload_n 0, 1) := by decide +kernel
theorem dX2_addHeading_6 : decode cX2_addHeading 6 = .ok (.getfield 27, 3) := by decide +kernel
theorem dX2_addHeading_9 : decode cX2_addHeading 9 = .ok (.bipush 24, 2) := by decide +kernel
theorem dX2_addHeading_11 : decode cX2_addHeading 11 = .ok (.if_icmp .ne 9, 3) := by decide +kernel
theorem dX2_addHeading_14 : decode cX2_addHeading 14 = .ok (.aload_n 0, 1) := by decide +kernel
theorem dX2_addHeading_15 : decode cX2_addHeading 15 = .ok (.iconst 1, 1) := by decide +kernel
theorem dX2_addHeading_16 : decode cX2_addHeading 16 = .ok (.invokevirtual 66, 3) := by decide +kernel
theorem dX2_addHeading_19 : decode cX2_addHeading 19 = .ok (.ireturn, 1) := by decide +kernel
theorem dX2_addHeading_20 : decode cX2_addHeading 20 = .ok (.aload_n 0, 1) := by decide +kernel
theorem dX2_addHeading_21 : decode cX2_addHeading 21 = .ok (.getfield 17, 3) := by decide +kernel
theorem dX2_addHeading_24 : decode cX2_addHeading 24 = .ok (.aload_n 0, 1) := by decide +kernel
theorem dX2_addHeading_25 : decode cX2_addHeading 25 = .ok (.getfield 27, 3) := by decide +kernel
theorem dX2_addHeading_28 : decode cX2_addHeading 28 = .ok (.iconst (-1), 1) := by decide +kernel
theorem dX2_addHeading_29 : decode cX2_addHeading 29 = .ok (.iastore, 1) := by decide +kernel
theorem dX2_addHeading_30 : decode cX2_addHeading 30 = .ok (.aload_n 0, 1) := by decide +kernel
theorem dX2_addHeading_31 : decode cX2_addHeading 31 = .ok (.dup, 1) := by decide +kernel
theorem dX2_addHeading_32 : decode cX2_addHeading 32 = .ok (.getfield 27, 3) := by decide +kernel
theorem dX2_addHeading_35 : decode cX2_addHeading 35 = .ok (.iconst 1, 1) := by decide +kernel
theorem dX2_addHeading_36 : decode cX2_addHeading 36 = .ok (.iadd, 1) := by decide +kernel
theorem dX2_addHeading_37 : decode cX2_addHeading 37 = .ok (.putfield 27, 3) := by decide +kernel
theorem dX2_addHeading_40 : decode cX2_addHeading 40 = .ok (.aload_n 0, 1) := by decide +kernel
theorem dX2_addHeading_41 : decode cX2_addHeading 41 = .ok (.getfield 27, 3) := by decide +kernel
theorem dX2_addHeading_44 : decode cX2_addHeading 44 = .ok (.iconst 1, 1) := by decide +kernel
theorem dX2_addHeading_45 : decode cX2_addHeading 45 = .ok (.isub, 1) := by decide +kernel
theorem dX2_addHeading_46 : decode cX2_addHeading 46 = .ok (.ireturn, 1) := by decide +kernel
set_option maxRecDepth 20000 in
theorem ggX2_put_X2_let : GoodIn wsX2_put wsX2_let := goodIn_r _ [5, 6, 7, 8, 9, 10, 11, 12] (by decide +kernel) (by decide +kernel)
set_option maxRecDepth 20000 in
theorem gX2_put_X2_let : GoodIn wsX2_put (wsV RX2 69 RX2 yX2_let wsX2_let) := goodIn_app (goodIn_of _ (by decide +kernel)) ggX2_put_X2_let
theorem dX2_put_0 : decode cX2_put 0 = .ok (.iload_n 2, 1) := by decide +kernel
theorem dX2_put_1 : decode cX2_put 1 = .ok (.istore 5, 2) := by decide +kernel
theorem dX2_put_3 : decode cX2_put 3 = .ok (.iload 5, 2) := by decide +kernel
theorem dX2_put_5 : decode cX2_put 5 = .ok (.iload_n 3, 1) := by decide +kernel
theorem dX2_put_6 : decode cX2_put 6 = .ok (.if_icmp .gt 18, 3) := by decide +kernel
theorem dX2_put_9 : decode cX2_put 9 = .ok (.aload_n 0, 1) := by decide +kernel
theorem dX2_put_10 : decode cX2_put 10 = .ok (.iload_n 1, 1) := by decide +kernel
theorem dX2_put_11 : decode cX2_put 11 = .ok (.iload 5, 2) := by decide +kernel
theorem dX2_put_13 : decode cX2_put 13 = .ok (.iload 4, 2) := by decide +kernel
theorem dX2_put_15 : decode cX2_put 15 = .ok (.invokevirtual 69, 3) := by decide +kernel
theorem dX2_put_18 : decode cX2_put 18 = .ok (.iinc 5 1, 3) := by decide +kernel
theorem dX2_put_21 : decode cX2_put 21 = .ok (.goto (-18), 3) := by decide +kernel
theorem dX2_put_24 : decode cX2_put 24 = .ok (.return_, 1) := by decide +kernel
set_option maxRecDepth 20000 in
theorem ggX2_addPages_X2_isHeading : GoodIn wsX2_addPages wsX2_isHeading := goodIn_r _ [7, 8, 9, 10, 6, 11, 42, 43, 44, 45, 46, 47] (by decide +kernel) (by decide +kernel)
set_option maxRecDepth 20000 in
theorem gX2_addPages_X2_isHeading : GoodIn wsX2_addPages (wsV RX2 73 RX2 yX2_isHeading wsX2_isHeading) := goodIn_app (goodIn_of _ (by decide +kernel)) ggX2_addPages_X2_isHeading
set_option maxRecDepth 20000 in
theorem ggX2_addPages_X2_no : GoodIn wsX2_addPages wsX2_no := goodIn_r _ [15, 1, 42, 43, 44, 45, 46, 47] (by decide +kernel) (by decide +kernel)
set_option maxRecDepth 20000 in
theorem gX2_addPages_X2_no : GoodIn wsX2_addPages (wsV RX2 66 RX2 yX2_no wsX2_no) := goodIn_app (goodIn_of _ (by decide +kernel)) ggX2_addPages_X2_no
set_option maxRecDepth 20000 in
theorem ggX2_addPages_X2_arePages : GoodIn wsX2_addPages wsX2_arePages := goodIn_r _ [19, 20, 42, 43, 44, 45, 46, 47] (by decide +kernel) (by decide +kernel)
set_option maxRecDepth 20000 in
theorem gX2_addPages_X2_arePages : GoodIn wsX2_addPages (wsV RX2 77 RX2 yX2_arePages wsX2_arePages) := goodIn_app (goodIn_of _ (by decide +kernel)) ggX2_addPages_X2_arePages
set_option maxRecDepth 20000 in
theorem ggX2_addPages_X2_spansWith : GoodIn wsX2_addPages wsX2_spansWith := goodIn_r _ [24, 20, 9, 10, 6, 11, 25, 26, 27, 28, 29, 42, 43, 44, 45, 46, 47] (by decide +kernel) (by decide +kernel)
set_option maxRecDepth 20000 in
theorem gX2_addPages_X2_spansWith : GoodIn wsX2_addPages (wsV RX2 80 RX2 yX2_spansWith wsX2_spansWith) := goodIn_app (goodIn_of _ (by decide +kernel)) ggX2_addPages_X2_spansWith
set_option maxRecDepth 20000 in
theorem ggX2_addPages_X2_put : GoodIn wsX2_addPages wsX2_put := goodIn_r _ [33, 34, 35, 36, 6, 37, 29, 42, 43, 44, 45, 46, 47] (by decide +kernel) (by decide +kernel)
set_option maxRecDepth 20000 in
theorem gX2_addPages_X2_put : GoodIn wsX2_addPages (wsV RX2 84 RX2 yX2_put wsX2_put) := goodIn_app (goodIn_of _ (by decide +kernel)) ggX2_addPages_X2_put
set_option maxRecDepth 20000 in
theorem ggX2_addPages_X2_spans : GoodIn wsX2_addPages wsX2_spans := goodIn_r _ [41, 20, 25, 26, 27, 6, 28, 29, 42, 43, 44, 45, 46, 47] (by decide +kernel) (by decide +kernel)
set_option maxRecDepth 20000 in
theorem gX2_addPages_X2_spans : GoodIn wsX2_addPages (wsV RX2 88 RX2 yX2_spans wsX2_spans) := goodIn_app (goodIn_of _ (by decide +kernel)) ggX2_addPages_X2_spans
theorem dX2_addPages_0 : decode cX2_addPages 0 = .ok (.aload_n 0, 1) := by decide +kernel
theorem dX2_addPages_1 : decode cX2_addPages 1 = .ok (.iconst 0, 1) := by decide +kernel
theorem dX2_addPages_2 : decode cX2_addPages 2 = .ok (.putfield 24, 3) := by decide +kernel
theorem dX2_addPages_5 : decode cX2_addPages 5 = .ok (.aload_n 0, 1) := by decide +kernel
theorem dX2_addPages_6 : decode cX2_addPages 6 = .ok (.iload_n 1, 1) := by decide +kernel
theorem dX2_addPages_7 : decode cX2_addPages 7 = .ok (.invokevirtual 73, 3) := by decide +kernel
theorem dX2_addPages_10 : decode cX2_addPages 10 = .ok (.ifCond .ne 9, 3) := by decide +kernel
theorem dX2_addPages_13 : decode cX2_addPages 13 = .ok (.aload_n 0, 1) := by decide +kernel
theorem dX2_addPages_14 : decode cX2_addPages 14 = .ok (.iconst 1, 1) := by decide +kernel
theorem dX2_addPages_15 : decode cX2_addPages 15 = .ok (.invokevirtual 66, 3) := by decide +kernel
theorem dX2_addPages_18 : decode cX2_addPages 18 = .ok (.ireturn, 1) := by decide +kernel
theorem dX2_addPages_19 : decode cX2_addPages 19 = .ok (.aload_n 0, 1) := by decide +kernel
theorem dX2_addPages_20 : decode cX2_addPages 20 = .ok (.iload_n 2, 1) := by decide +kernel
theorem dX2_addPages_21 : decode cX2_addPages 21 = .ok (.iload_n 3, 1) := by decide +kernel
theorem dX2_addPages_22 : decode cX2_addPages 22 = .ok (.invokevirtual 77, 3) := by decide +kernel
theorem dX2_addPages_25 : decode cX2_addPages 25 = .ok (.ifCond .ne 9, 3) := by decide +kernel
theorem dX2_addPages_28 : decode cX2_addPages 28 = .ok (.aload_n 0, 1) := by decide +kernel
theorem dX2_addPages_29 : decode cX2_addPages 29 = .ok (.iconst 2, 1) := by decide +kernel
theorem dX2_addPages_30 : decode cX2_addPages 30 = .ok (.invokevirtual 66, 3) := by decide +kernel
theorem dX2_addPages_33 : decode cX2_addPages 33 = .ok (.ireturn, 1) := by decide +kernel
theorem dX2_addPages_34 : decode cX2_addPages 34 = .ok (.aload_n 0, 1) := by decide +kernel
theorem dX2_addPages_35 : decode cX2_addPages 35 = .ok (.getfield 17, 3) := by decide +kernel
theorem dX2_addPages_38 : decode cX2_addPages 38 = .ok (.iload_n 1, 1) := by decide +kernel
theorem dX2_addPages_39 : decode cX2_addPages 39 = .ok (.iaload, 1) := by decide +kernel
theorem dX2_addPages_40 : decode cX2_addPages 40 = .ok (.iconst (-1), 1) := by decide +kernel
theorem dX2_addPages_41 : decode cX2_addPages 41 = .ok (.if_icmp .ne 16, 3) := by decide +kernel
theorem dX2_addPages_44 : decode cX2_addPages 44 = .ok (.aload_n 0, 1) := by decide +kernel
theorem dX2_addPages_45 : decode cX2_addPages 45 = .ok (.iload_n 1, 1) := by decide +kernel
theorem dX2_addPages_46 : decode cX2_addPages 46 = .ok (.iload_n 2, 1) := by decide +kernel
theorem dX2_addPages_47 : decode cX2_addPages 47 = .ok (.iload_n 3, 1) := by decide +kernel
theorem dX2_addPages_48 : decode cX2_addPages 48 = .ok (.iconst 1, 1) := by decide +kernel
theorem dX2_addPages_49 : decode cX2_addPages 49 = .ok (.invokevirtual 80, 3) := by decide +kernel
theorem dX2_addPages_52 : decode cX2_addPages 52 = .ok (.bipush 8, 2) := by decide +kernel
theorem dX2_addPages_54 : decode cX2_addPages 54 = .ok (.if_icmp .le 9, 3) := by decide +kernel
theorem dX2_addPages_57 : decode cX2_addPages 57 = .ok (.aload_n 0, 1) := by decide +kernel
theorem dX2_addPages_58 : decode cX2_addPages 58 = .ok (.iconst 3, 1) := by decide +kernel
theorem dX2_addPages_59 : decode cX2_addPages 59 = .ok (.invokevirtual 66, 3) := by decide +kernel
theorem dX2_addPages_62 : decode cX2_addPages 62 = .ok (.ireturn, 1) := by decide +kernel
theorem dX2_addPages_63 : decode cX2_addPages 63 = .ok (.aload_n 0, 1) := by decide +kernel
theorem dX2_addPages_64 : decode cX2_addPages 64 = .ok (.iload_n 1, 1) := by decide +kernel
theorem dX2_addPages_65 : decode cX2_addPages 65 = .ok (.iload_n 2, 1) := by decide +kernel
theorem dX2_addPages_66 : decode cX2_addPages 66 = .ok (.iload_n 3, 1) := by decide +kernel
theorem dX2_addPages_67 : decode cX2_addPages 67 = .ok (.iconst 1, 1) := by decide +kernel
theorem dX2_addPages_68 : decode cX2_addPages 68 = .ok (.invokevirtual 84, 3) := by decide +kernel
theorem dX2_addPages_71 : decode cX2_addPages 71 = .ok (.aload_n 0, 1) := by decide +kernel
theorem dX2_addPages_72 : decode cX2_addPages 72 = .ok (.iload_n 1, 1) := by decide +kernel
theorem dX2_addPages_73 : decode cX2_addPages 73 = .ok (.iload_n 1, 1) := by decide +kernel
theorem dX2_addPages_74 : decode cX2_addPages 74 = .ok (.iconst 0, 1) := by decide +kernel
theorem dX2_addPages_75 : decode cX2_addPages 75 = .ok (.invokevirtual 88, 3) := by decide +kernel
theorem dX2_addPages_78 : decode cX2_addPages 78 = .ok (.ireturn, 1) := by decide +kernel
set_option maxRecDepth 20000 in
theorem ggX2_takePages_X2_isHeading : GoodIn wsX2_takePages wsX2_isHeading := goodIn_r _ [6, 7, 8, 9, 5, 10, 41, 42, 43, 44, 45, 46] (by decide +kernel) (by decide +kernel)
set_option maxRecDepth 20000 in
theorem gX2_takePages_X2_isHeading : GoodIn wsX2_takePages (wsV RX2 73 RX2 yX2_isHeading wsX2_isHeading) := goodIn_app (goodIn_of _ (by decide +kernel)) ggX2_takePages_X2_isHeading
set_option maxRecDepth 20000 in
theorem ggX2_takePages_X2_no : GoodIn wsX2_takePages wsX2_no := goodIn_r _ [14, 1, 41, 42, 43, 44, 45, 46] (by decide +kernel) (by decide +kernel)
set_option maxRecDepth 20000 in
theorem gX2_takePages_X2_no : GoodIn wsX2_takePages (wsV RX2 66 RX2 yX2_no wsX2_no) := goodIn_app (goodIn_of _ (by decide +kernel)) ggX2_takePages_X2_no
set_option maxRecDepth 20000 in
theorem ggX2_takePages_X2_arePages : GoodIn wsX2_takePages wsX2_arePages := goodIn_r _ [18, 19, 41, 42, 43, 44, 45, 46] (by decide +kernel) (by decide +kernel)
set_option maxRecDepth 20000 in
theorem gX2_takePages_X2_arePages : GoodIn wsX2_takePages (wsV RX2 77 RX2 yX2_arePages wsX2_arePages) := goodIn_app (goodIn_of _ (by decide +kernel)) ggX2_takePages_X2_arePages
set_option maxRecDepth 20000 in
theorem ggX2_takePages_X2_spansWith : GoodIn wsX2_takePages wsX2_spansWith := goodIn_r _ [23, 19, 8, 9, 5, 10, 24, 25, 26, 27, 28, 41, 42, 43, 44, 45, 46] (by decide +kernel) (by decide +kernel)
set_option maxRecDepth 20000 in
theorem gX2_takePages_X2_spansWith : GoodIn wsX2_takePages (wsV RX2 80 RX2 yX2_spansWith wsX2_spansWith) := goodIn_app (goodIn_of _ (by decide +kernel)) ggX2_takePages_X2_spansWith
set_option maxRecDepth 20000 in
theorem ggX2_takePages_X2_many : GoodIn wsX2_takePages wsX2_many := goodIn_r _ [32, 19, 24, 25, 26, 5, 27, 28, 41, 42, 43, 44, 45, 46] (by decide +kernel) (by decide +kernel)
set_option maxRecDepth 20000 in
theorem gX2_takePages_X2_many : GoodIn wsX2_takePages (wsV RX2 52 RX2 yX2_many wsX2_many) := goodIn_app (goodIn_of _ (by decide +kernel)) ggX2_takePages_X2_many
set_option maxRecDepth 20000 in
theorem ggX2_takePages_X2_put : GoodIn wsX2_takePages wsX2_put := goodIn_r _ [36, 37, 38, 39, 5, 40, 28, 41, 42, 43, 44, 45, 46] (by decide +kernel) (by decide +kernel)
set_option maxRecDepth 20000 in
theorem gX2_takePages_X2_put : GoodIn wsX2_takePages (wsV RX2 84 RX2 yX2_put wsX2_put) := goodIn_app (goodIn_of _ (by decide +kernel)) ggX2_takePages_X2_put
theorem dX2_takePages_0 : decode cX2_takePages 0 = .ok (.aload_n 0, 1) := by decide +kernel
theorem dX2_takePages_1 : decode cX2_takePages 1 = .ok (.iconst 0, 1) := by decide +kernel
theorem dX2_takePages_2 : decode cX2_takePages 2 = .ok (.putfield 24, 3) := by decide +kernel
theorem dX2_takePages_5 : decode cX2_takePages 5 = .ok (.aload_n 0, 1) := by decide +kernel
theorem dX2_takePages_6 : decode cX2_takePages 6 = .ok (.iload_n 1, 1) := by decide +kernel
theorem dX2_takePages_7 : decode cX2_takePages 7 = .ok (.invokevirtual 73, 3) := by decide +kernel
theorem dX2_takePages_10 : decode cX2_takePages 10 = .ok (.ifCond .ne 9, 3) := by decide +kernel
theorem dX2_takePages_13 : decode cX2_takePages 13 = .ok (.aload_n 0, 1) := by decide +kernel
theorem dX2_takePages_14 : decode cX2_takePages 14 = .ok (.iconst 1, 1) := by decide +kernel
theorem dX2_takePages_15 : decode cX2_takePages 15 = .ok (.invokevirtual 66, 3) := by decide +kernel
theorem dX2_takePages_18 : decode cX2_takePages 18 = .ok (.ireturn, 1) := by decide +kernel
theorem dX2_takePages_19 : decode cX2_takePages 19 = .ok (.aload_n 0, 1) := by decide +kernel
theorem dX2_takePages_20 : decode cX2_takePages 20 = .ok (.iload_n 2, 1) := by decide +kernel
theorem dX2_takePages_21 : decode cX2_takePages 21 = .ok (.iload_n 3, 1) := by decide +kernel
theorem dX2_takePages_22 : decode cX2_takePages 22 = .ok (.invokevirtual 77, 3) := by decide +kernel
theorem dX2_takePages_25 : decode cX2_takePages 25 = .ok (.ifCond .ne 9, 3) := by decide +kernel
theorem dX2_takePages_28 : decode cX2_takePages 28 = .ok (.aload_n 0, 1) := by decide +kernel
theorem dX2_takePages_29 : decode cX2_takePages 29 = .ok (.iconst 2, 1) := by decide +kernel
theorem dX2_takePages_30 : decode cX2_takePages 30 = .ok (.invokevirtual 66, 3) := by decide +kernel
theorem dX2_takePages_33 : decode cX2_takePages 33 = .ok (.ireturn, 1) := by decide +kernel
theorem dX2_takePages_34 : decode cX2_takePages 34 = .ok (.aload_n 0, 1) := by decide +kernel
theorem dX2_takePages_35 : decode cX2_takePages 35 = .ok (.iload_n 1, 1) := by decide +kernel
theorem dX2_takePages_36 : decode cX2_takePages 36 = .ok (.iload_n 2, 1) := by decide +kernel
theorem dX2_takePages_37 : decode cX2_takePages 37 = .ok (.iload_n 3, 1) := by decide +kernel
theorem dX2_takePages_38 : decode cX2_takePages 38 = .ok (.iconst 0, 1) := by decide +kernel
theorem dX2_takePages_39 : decode cX2_takePages 39 = .ok (.invokevirtual 80, 3) := by decide +kernel
theorem dX2_takePages_42 : decode cX2_takePages 42 = .ok (.bipush 8, 2) := by decide +kernel
theorem dX2_takePages_44 : decode cX2_takePages 44 = .ok (.if_icmp .le 9, 3) := by decide +kernel
theorem dX2_takePages_47 : decode cX2_takePages 47 = .ok (.aload_n 0, 1) := by decide +kernel
theorem dX2_takePages_48 : decode cX2_takePages 48 = .ok (.iconst 3, 1) := by decide +kernel
theorem dX2_takePages_49 : decode cX2_takePages 49 = .ok (.invokevirtual 66, 3) := by decide +kernel
theorem dX2_takePages_52 : decode cX2_takePages 52 = .ok (.ireturn, 1) := by decide +kernel
theorem dX2_takePages_53 : decode cX2_takePages 53 = .ok (.aload_n 0, 1) := by decide +kernel
theorem dX2_takePages_54 : decode cX2_takePages 54 = .ok (.iload_n 1, 1) := by decide +kernel
theorem dX2_takePages_55 : decode cX2_takePages 55 = .ok (.invokevirtual 52, 3) := by decide +kernel
theorem dX2_takePages_58 : decode cX2_takePages 58 = .ok (.istore 4, 2) := by decide +kernel
theorem dX2_takePages_60 : decode cX2_takePages 60 = .ok (.aload_n 0, 1) := by decide +kernel
theorem dX2_takePages_61 : decode cX2_takePages 61 = .ok (.iload_n 1, 1) := by decide +kernel
theorem dX2_takePages_62 : decode cX2_takePages 62 = .ok (.iload_n 2, 1) := by decide +kernel
theorem dX2_takePages_63 : decode cX2_takePages 63 = .ok (.iload_n 3, 1) := by decide +kernel
theorem dX2_takePages_64 : decode cX2_takePages 64 = .ok (.iconst 0, 1) := by decide +kernel
theorem dX2_takePages_65 : decode cX2_takePages 65 = .ok (.invokevirtual 84, 3) := by decide +kernel
theorem dX2_takePages_68 : decode cX2_takePages 68 = .ok (.iload 4, 2) := by decide +kernel
theorem dX2_takePages_70 : decode cX2_takePages 70 = .ok (.aload_n 0, 1) := by decide +kernel
theorem dX2_takePages_71 : decode cX2_takePages 71 = .ok (.iload_n 1, 1) := by decide +kernel
theorem dX2_takePages_72 : decode cX2_takePages 72 = .ok (.invokevirtual 52, 3) := by decide +kernel
theorem dX2_takePages_75 : decode cX2_takePages 75 = .ok (.isub, 1) := by decide +kernel
theorem dX2_takePages_76 : decode cX2_takePages 76 = .ok (.ireturn, 1) := by decide +kernel
set_option maxRecDepth 20000 in
theorem ggX2_setSee_X2_isHeading : GoodIn wsX2_setSee wsX2_isHeading := goodIn_r _ [7, 8, 9, 10, 6, 11, 26, 27, 28, 29, 30, 31] (by decide +kernel) (by decide +kernel)
set_option maxRecDepth 20000 in
theorem gX2_setSee_X2_isHeading : GoodIn wsX2_setSee (wsV RX2 73 RX2 yX2_isHeading wsX2_isHeading) := goodIn_app (goodIn_of _ (by decide +kernel)) ggX2_setSee_X2_isHeading
set_option maxRecDepth 20000 in
theorem ggX2_setSee_X2_no : GoodIn wsX2_setSee wsX2_no := goodIn_r _ [15, 1, 26, 27, 28, 29, 30, 31] (by decide +kernel) (by decide +kernel)
set_option maxRecDepth 20000 in
theorem gX2_setSee_X2_no : GoodIn wsX2_setSee (wsV RX2 66 RX2 yX2_no wsX2_no) := goodIn_app (goodIn_of _ (by decide +kernel)) ggX2_setSee_X2_no
set_option maxRecDepth 20000 in
theorem ggX2_setSee_X2_many : GoodIn wsX2_setSee wsX2_many := goodIn_r _ [19, 20, 21, 22, 23, 6, 24, 25, 26, 27, 28, 29, 30, 31] (by decide +kernel) (by decide +kernel)
set_option maxRecDepth 20000 in
theorem gX2_setSee_X2_many : GoodIn wsX2_setSee (wsV RX2 52 RX2 yX2_many wsX2_many) := goodIn_app (goodIn_of _ (by decide +kernel)) ggX2_setSee_X2_many
theorem dX2_setSee_0 : decode cX2_setSee 0 = .ok (.aload_n 0, 1) := by decide +kernel
theorem dX2_setSee_1 : decode cX2_setSee 1 = .ok (.iconst 0, 1) := by decide +kernel
theorem dX2_setSee_2 : decode cX2_setSee 2 = .ok (.putfield 24, 3) := by decide +kernel
theorem dX2_setSee_5 : decode cX2_setSee 5 = .ok (.aload_n 0, 1) := by decide +kernel
theorem dX2_setSee_6 : decode cX2_setSee 6 = .ok (.iload_n 1, 1) := by decide +kernel
theorem dX2_setSee_7 : decode cX2_setSee 7 = .ok (.invokevirtual 73, 3) := by decide +kernel
theorem dX2_setSee_10 : decode cX2_setSee 10 = .ok (.ifCond .eq 16, 3) := by decide +kernel
theorem dX2_setSee_13 : decode cX2_setSee 13 = .ok (.iload_n 2, 1) := by decide +kernel
theorem dX2_setSee_14 : decode cX2_setSee 14 = .ok (.iconst (-1), 1) := by decide +kernel
theorem dX2_setSee_15 : decode cX2_setSee 15 = .ok (.if_icmp .eq 17, 3) := by decide +kernel
theorem dX2_setSee_18 : decode cX2_setSee 18 = .ok (.aload_n 0, 1) := by decide +kernel
theorem dX2_setSee_19 : decode cX2_setSee 19 = .ok (.iload_n 2, 1) := by decide +kernel
theorem dX2_setSee_20 : decode cX2_setSee 20 = .ok (.invokevirtual 73, 3) := by decide +kernel
theorem dX2_setSee_23 : decode cX2_setSee 23 = .ok (.ifCond .ne 9, 3) := by decide +kernel
theorem dX2_setSee_26 : decode cX2_setSee 26 = .ok (.aload_n 0, 1) := by decide +kernel
theorem dX2_setSee_27 : decode cX2_setSee 27 = .ok (.iconst 1, 1) := by decide +kernel
theorem dX2_setSee_28 : decode cX2_setSee 28 = .ok (.invokevirtual 66, 3) := by decide +kernel
theorem dX2_setSee_31 : decode cX2_setSee 31 = .ok (.ireturn, 1) := by decide +kernel
theorem dX2_setSee_32 : decode cX2_setSee 32 = .ok (.iload_n 1, 1) := by decide +kernel
theorem dX2_setSee_33 : decode cX2_setSee 33 = .ok (.iload_n 2, 1) := by decide +kernel
theorem dX2_setSee_34 : decode cX2_setSee 34 = .ok (.if_icmp .ne 9, 3) := by decide +kernel
theorem dX2_setSee_37 : decode cX2_setSee 37 = .ok (.aload_n 0, 1) := by decide +kernel
theorem dX2_setSee_38 : decode cX2_setSee 38 = .ok (.iconst 2, 1) := by decide +kernel
theorem dX2_setSee_39 : decode cX2_setSee 39 = .ok (.invokevirtual 66, 3) := by decide +kernel
theorem dX2_setSee_42 : decode cX2_setSee 42 = .ok (.ireturn, 1) := by decide +kernel
theorem dX2_setSee_43 : decode cX2_setSee 43 = .ok (.iload_n 2, 1) := by decide +kernel
theorem dX2_setSee_44 : decode cX2_setSee 44 = .ok (.iconst (-1), 1) := by decide +kernel
theorem dX2_setSee_45 : decode cX2_setSee 45 = .ok (.if_icmp .eq 17, 3) := by decide +kernel
theorem dX2_setSee_48 : decode cX2_setSee 48 = .ok (.aload_n 0, 1) := by decide +kernel
theorem dX2_setSee_49 : decode cX2_setSee 49 = .ok (.iload_n 1, 1) := by decide +kernel
theorem dX2_setSee_50 : decode cX2_setSee 50 = .ok (.invokevirtual 52, 3) := by decide +kernel
theorem dX2_setSee_53 : decode cX2_setSee 53 = .ok (.ifCond .le 9, 3) := by decide +kernel
theorem dX2_setSee_56 : decode cX2_setSee 56 = .ok (.aload_n 0, 1) := by decide +kernel
theorem dX2_setSee_57 : decode cX2_setSee 57 = .ok (.iconst 3, 1) := by decide +kernel
theorem dX2_setSee_58 : decode cX2_setSee 58 = .ok (.invokevirtual 66, 3) := by decide +kernel
theorem dX2_setSee_61 : decode cX2_setSee 61 = .ok (.ireturn, 1) := by decide +kernel
theorem dX2_setSee_62 : decode cX2_setSee 62 = .ok (.aload_n 0, 1) := by decide +kernel
theorem dX2_setSee_63 : decode cX2_setSee 63 = .ok (.getfield 17, 3) := by decide +kernel
theorem dX2_setSee_66 : decode cX2_setSee 66 = .ok (.iload_n 1, 1) := by decide +kernel
theorem dX2_setSee_67 : decode cX2_setSee 67 = .ok (.iaload, 1) := by decide +kernel
theorem dX2_setSee_68 : decode cX2_setSee 68 = .ok (.istore_n 3, 1) := by decide +kernel
theorem dX2_setSee_69 : decode cX2_setSee 69 = .ok (.aload_n 0, 1) := by decide +kernel
theorem dX2_setSee_70 : decode cX2_setSee 70 = .ok (.getfield 17, 3) := by decide +kernel
theorem dX2_setSee_73 : decode cX2_setSee 73 = .ok (.iload_n 1, 1) := by decide +kernel
theorem dX2_setSee_74 : decode cX2_setSee 74 = .ok (.iload_n 2, 1) := by decide +kernel
theorem dX2_setSee_75 : decode cX2_setSee 75 = .ok (.iastore, 1) := by decide +kernel
theorem dX2_setSee_76 : decode cX2_setSee 76 = .ok (.iload_n 3, 1) := by decide +kernel
theorem dX2_setSee_77 : decode cX2_setSee 77 = .ok (.ireturn, 1) := by decide +kernel
set_option maxRecDepth 20000 in
theorem ggX2_turnSeeAlso_X2_isHeading : GoodIn wsX2_turnSeeAlso wsX2_isHeading := goodIn_r _ [7, 8, 9, 10, 6, 11, 23, 24, 25, 26, 27, 28] (by decide +kernel) (by decide +kernel)
set_option maxRecDepth 20000 in
theorem gX2_turnSeeAlso_X2_isHeading : GoodIn wsX2_turnSeeAlso (wsV RX2 73 RX2 yX2_isHeading wsX2_isHeading) := goodIn_app (goodIn_of _ (by decide +kernel)) ggX2_turnSeeAlso_X2_isHeading
set_option maxRecDepth 20000 in
theorem ggX2_turnSeeAlso_X2_no : GoodIn wsX2_turnSeeAlso wsX2_no := goodIn_r _ [15, 1, 23, 24, 25, 26, 27, 28] (by decide +kernel) (by decide +kernel)
set_option maxRecDepth 20000 in
theorem gX2_turnSeeAlso_X2_no : GoodIn wsX2_turnSeeAlso (wsV RX2 66 RX2 yX2_no wsX2_no) := goodIn_app (goodIn_of _ (by decide +kernel)) ggX2_turnSeeAlso_X2_no
set_option maxRecDepth 20000 in
theorem ggX2_turnSeeAlso_J6_bitCount_0f7a4 : GoodIn wsX2_turnSeeAlso wsJ6_bitCount_0f7a4 := goodIn_r _ [19, 20, 21, 22] (by decide +kernel) (by decide +kernel)
set_option maxRecDepth 20000 in
theorem gX2_turnSeeAlso_J6_bitCount_0f7a4 : GoodIn wsX2_turnSeeAlso (va_wsS RX2 61 yJ6_bitCount_0f7a4 wsJ6_bitCount_0f7a4) := goodIn_app (goodIn_of _ (by decide +kernel)) ggX2_turnSeeAlso_J6_bitCount_0f7a4
theorem dX2_turnSeeAlso_0 : decode cX2_turnSeeAlso 0 = .ok (.aload_n 0, 1) := by decide +kernel
theorem dX2_turnSeeAlso_1 : decode cX2_turnSeeAlso 1 = .ok (.iconst 0, 1) := by decide +kernel
theorem dX2_turnSeeAlso_2 : decode cX2_turnSeeAlso 2 = .ok (.putfield 24, 3) := by decide +kernel
theorem dX2_turnSeeAlso_5 : decode cX2_turnSeeAlso 5 = .ok (.aload_n 0, 1) := by decide +kernel
theorem dX2_turnSeeAlso_6 : decode cX2_turnSeeAlso 6 = .ok (.iload_n 1, 1) := by decide +kernel
theorem dX2_turnSeeAlso_7 : decode cX2_turnSeeAlso 7 = .ok (.invokevirtual 73, 3) := by decide +kernel
theorem dX2_turnSeeAlso_10 : decode cX2_turnSeeAlso 10 = .ok (.ifCond .eq 11, 3) := by decide +kernel
theorem dX2_turnSeeAlso_13 : decode cX2_turnSeeAlso 13 = .ok (.aload_n 0, 1) := by decide +kernel
theorem dX2_turnSeeAlso_14 : decode cX2_turnSeeAlso 14 = .ok (.iload_n 2, 1) := by decide +kernel
theorem dX2_turnSeeAlso_15 : decode cX2_turnSeeAlso 15 = .ok (.invokevirtual 73, 3) := by decide +kernel
theorem dX2_turnSeeAlso_18 : decode cX2_turnSeeAlso 18 = .ok (.ifCond .ne 9, 3) := by decide +kernel
theorem dX2_turnSeeAlso_21 : decode cX2_turnSeeAlso 21 = .ok (.aload_n 0, 1) := by decide +kernel
theorem dX2_turnSeeAlso_22 : decode cX2_turnSeeAlso 22 = .ok (.iconst 1, 1) := by decide +kernel
theorem dX2_turnSeeAlso_23 : decode cX2_turnSeeAlso 23 = .ok (.invokevirtual 66, 3) := by decide +kernel
theorem dX2_turnSeeAlso_26 : decode cX2_turnSeeAlso 26 = .ok (.ireturn, 1) := by decide +kernel
theorem dX2_turnSeeAlso_27 : decode cX2_turnSeeAlso 27 = .ok (.iload_n 1, 1) := by decide +kernel
theorem dX2_turnSeeAlso_28 : decode cX2_turnSeeAlso 28 = .ok (.iload_n 2, 1) := by decide +kernel
theorem dX2_turnSeeAlso_29 : decode cX2_turnSeeAlso 29 = .ok (.if_icmp .ne 9, 3) := by decide +kernel
theorem dX2_turnSeeAlso_32 : decode cX2_turnSeeAlso 32 = .ok (.aload_n 0, 1) := by decide +kernel
theorem dX2_turnSeeAlso_33 : decode cX2_turnSeeAlso 33 = .ok (.iconst 2, 1) := by decide +kernel
theorem dX2_turnSeeAlso_34 : decode cX2_turnSeeAlso 34 = .ok (.invokevirtual 66, 3) := by decide +kernel
theorem dX2_turnSeeAlso_37 : decode cX2_turnSeeAlso 37 = .ok (.ireturn, 1) := by decide +kernel
theorem dX2_turnSeeAlso_38 : decode cX2_turnSeeAlso 38 = .ok (.aload_n 0, 1) := by decide +kernel
theorem dX2_turnSeeAlso_39 : decode cX2_turnSeeAlso 39 = .ok (.getfield 21, 3) := by decide +kernel
theorem dX2_turnSeeAlso_42 : decode cX2_turnSeeAlso 42 = .ok (.iload_n 1, 1) := by decide +kernel
theorem dX2_turnSeeAlso_43 : decode cX2_turnSeeAlso 43 = .ok (.iaload, 1) := by decide +kernel
theorem dX2_turnSeeAlso_44 : decode cX2_turnSeeAlso 44 = .ok (.iload_n 2, 1) := by decide +kernel
theorem dX2_turnSeeAlso_45 : decode cX2_turnSeeAlso 45 = .ok (.ishr, 1) := by decide +kernel
theorem dX2_turnSeeAlso_46 : decode cX2_turnSeeAlso 46 = .ok (.iconst 1, 1) := by decide +kernel
theorem dX2_turnSeeAlso_47 : decode cX2_turnSeeAlso 47 = .ok (.iand, 1) := by decide +kernel
theorem dX2_turnSeeAlso_48 : decode cX2_turnSeeAlso 48 = .ok (.iconst 1, 1) := by decide +kernel
theorem dX2_turnSeeAlso_49 : decode cX2_turnSeeAlso 49 = .ok (.if_icmp .ne 7, 3) := by decide +kernel
theorem dX2_turnSeeAlso_52 : decode cX2_turnSeeAlso 52 = .ok (.iconst 1, 1) := by decide +kernel
theorem dX2_turnSeeAlso_53 : decode cX2_turnSeeAlso 53 = .ok (.goto 4, 3) := by decide +kernel
theorem dX2_turnSeeAlso_56 : decode cX2_turnSeeAlso 56 = .ok (.iconst 0, 1) := by decide +kernel
theorem dX2_turnSeeAlso_57 : decode cX2_turnSeeAlso 57 = .ok (.istore_n 3, 1) := by decide +kernel
theorem dX2_turnSeeAlso_58 : decode cX2_turnSeeAlso 58 = .ok (.iload_n 3, 1) := by decide +kernel
theorem dX2_turnSeeAlso_59 : decode cX2_turnSeeAlso 59 = .ok (.ifCond .ne 22, 3) := by decide +kernel
theorem dX2_turnSeeAlso_62 : decode cX2_turnSeeAlso 62 = .ok (.aload_n 0, 1) := by decide +kernel
theorem dX2_turnSeeAlso_63 : decode cX2_turnSeeAlso 63 = .ok (.getfield 21, 3) := by decide +kernel
theorem dX2_turnSeeAlso_66 : decode cX2_turnSeeAlso 66 = .ok (.iload_n 1, 1) := by decide +kernel
theorem dX2_turnSeeAlso_67 : decode cX2_turnSeeAlso 67 = .ok (.iaload, 1) := by decide +kernel
theorem dX2_turnSeeAlso_68 : decode cX2_turnSeeAlso 68 = .ok (.invokestatic 61, 3) := by decide +kernel
theorem dX2_turnSeeAlso_71 : decode cX2_turnSeeAlso 71 = .ok (.iconst 4, 1) := by decide +kernel
theorem dX2_turnSeeAlso_72 : decode cX2_turnSeeAlso 72 = .ok (.if_icmp .ne 9, 3) := by decide +kernel
theorem dX2_turnSeeAlso_75 : decode cX2_turnSeeAlso 75 = .ok (.aload_n 0, 1) := by decide +kernel
theorem dX2_turnSeeAlso_76 : decode cX2_turnSeeAlso 76 = .ok (.iconst 3, 1) := by decide +kernel
theorem dX2_turnSeeAlso_77 : decode cX2_turnSeeAlso 77 = .ok (.invokevirtual 66, 3) := by decide +kernel
theorem dX2_turnSeeAlso_80 : decode cX2_turnSeeAlso 80 = .ok (.ireturn, 1) := by decide +kernel
theorem dX2_turnSeeAlso_81 : decode cX2_turnSeeAlso 81 = .ok (.aload_n 0, 1) := by decide +kernel
theorem dX2_turnSeeAlso_82 : decode cX2_turnSeeAlso 82 = .ok (.getfield 21, 3) := by decide +kernel
theorem dX2_turnSeeAlso_85 : decode cX2_turnSeeAlso 85 = .ok (.iload_n 1, 1) := by decide +kernel
theorem dX2_turnSeeAlso_86 : decode cX2_turnSeeAlso 86 = .ok (.dup2, 1) := by decide +kernel
theorem dX2_turnSeeAlso_87 : decode cX2_turnSeeAlso 87 = .ok (.iaload, 1) := by decide +kernel
theorem dX2_turnSeeAlso_88 : decode cX2_turnSeeAlso 88 = .ok (.iconst 1, 1) := by decide +kernel
theorem dX2_turnSeeAlso_89 : decode cX2_turnSeeAlso 89 = .ok (.iload_n 2, 1) := by decide +kernel
theorem dX2_turnSeeAlso_90 : decode cX2_turnSeeAlso 90 = .ok (.ishl, 1) := by decide +kernel
theorem dX2_turnSeeAlso_91 : decode cX2_turnSeeAlso 91 = .ok (.ixor, 1) := by decide +kernel
theorem dX2_turnSeeAlso_92 : decode cX2_turnSeeAlso 92 = .ok (.iastore, 1) := by decide +kernel
theorem dX2_turnSeeAlso_93 : decode cX2_turnSeeAlso 93 = .ok (.aload_n 0, 1) := by decide +kernel
theorem dX2_turnSeeAlso_94 : decode cX2_turnSeeAlso 94 = .ok (.getfield 21, 3) := by decide +kernel
theorem dX2_turnSeeAlso_97 : decode cX2_turnSeeAlso 97 = .ok (.iload_n 1, 1) := by decide +kernel
theorem dX2_turnSeeAlso_98 : decode cX2_turnSeeAlso 98 = .ok (.iaload, 1) := by decide +kernel
theorem dX2_turnSeeAlso_99 : decode cX2_turnSeeAlso 99 = .ok (.invokestatic 61, 3) := by decide +kernel
theorem dX2_turnSeeAlso_102 : decode cX2_turnSeeAlso 102 = .ok (.ireturn, 1) := by decide +kernel
set_option maxRecDepth 20000 in
theorem ggX2_putIn_X2_isIn : GoodIn wsX2_putIn wsX2_isIn := goodIn_r _ [7] (by decide +kernel) (by decide +kernel)
set_option maxRecDepth 20000 in
theorem gX2_putIn_X2_isIn : GoodIn wsX2_putIn (va_wsS RX2 30 yX2_isIn wsX2_isIn) := goodIn_app (goodIn_of _ (by decide +kernel)) ggX2_putIn_X2_isIn
set_option maxRecDepth 20000 in
theorem ggX2_putIn_X2_no : GoodIn wsX2_putIn wsX2_no := goodIn_r _ [11, 1, 25, 26, 27, 28, 29, 30] (by decide +kernel) (by decide +kernel)
set_option maxRecDepth 20000 in
theorem gX2_putIn_X2_no : GoodIn wsX2_putIn (wsV RX2 66 RX2 yX2_no wsX2_no) := goodIn_app (goodIn_of _ (by decide +kernel)) ggX2_putIn_X2_no
set_option maxRecDepth 20000 in
theorem ggX2_putIn_X2_has : GoodIn wsX2_putIn wsX2_has := goodIn_r _ [15, 16, 25, 26, 27, 28, 29, 30] (by decide +kernel) (by decide +kernel)
set_option maxRecDepth 20000 in
theorem gX2_putIn_X2_has : GoodIn wsX2_putIn (wsV RX2 34 RX2 yX2_has wsX2_has) := goodIn_app (goodIn_of _ (by decide +kernel)) ggX2_putIn_X2_has
set_option maxRecDepth 20000 in
theorem ggX2_putIn_X2_let : GoodIn wsX2_putIn wsX2_let := goodIn_r _ [20, 16, 25, 26, 27, 28, 29, 30] (by decide +kernel) (by decide +kernel)
set_option maxRecDepth 20000 in
theorem gX2_putIn_X2_let : GoodIn wsX2_putIn (wsV RX2 69 RX2 yX2_let wsX2_let) := goodIn_app (goodIn_of _ (by decide +kernel)) ggX2_putIn_X2_let
set_option maxRecDepth 20000 in
theorem ggX2_putIn_X2_put : GoodIn wsX2_putIn wsX2_put := goodIn_r _ [24, 17, 18, 19, 6, 20, 16, 25, 26, 27, 28, 29, 30] (by decide +kernel) (by decide +kernel)
set_option maxRecDepth 20000 in
theorem gX2_putIn_X2_put : GoodIn wsX2_putIn (wsV RX2 84 RX2 yX2_put wsX2_put) := goodIn_app (goodIn_of _ (by decide +kernel)) ggX2_putIn_X2_put
theorem dX2_putIn_0 : decode cX2_putIn 0 = .ok (.aload_n 0, 1) := by decide +kernel
theorem dX2_putIn_1 : decode cX2_putIn 1 = .ok (.iconst 0, 1) := by decide +kernel
theorem dX2_putIn_2 : decode cX2_putIn 2 = .ok (.putfield 24, 3) := by decide +kernel
theorem dX2_putIn_5 : decode cX2_putIn 5 = .ok (.iload_n 1, 1) := by decide +kernel
theorem dX2_putIn_6 : decode cX2_putIn 6 = .ok (.iconst 1, 1) := by decide +kernel
theorem dX2_putIn_7 : decode cX2_putIn 7 = .ok (.aload_n 0, 1) := by decide +kernel
theorem dX2_putIn_8 : decode cX2_putIn 8 = .ok (.getfield 9, 3) := by decide +kernel
theorem dX2_putIn_11 : decode cX2_putIn 11 = .ok (.iconst 1, 1) := by decide +kernel
theorem dX2_putIn_12 : decode cX2_putIn 12 = .ok (.iadd, 1) := by decide +kernel
theorem dX2_putIn_13 : decode cX2_putIn 13 = .ok (.invokestatic 30, 3) := by decide +kernel
theorem dX2_putIn_16 : decode cX2_putIn 16 = .ok (.ifCond .eq 13, 3) := by decide +kernel
theorem dX2_putIn_19 : decode cX2_putIn 19 = .ok (.iload_n 2, 1) := by decide +kernel
theorem dX2_putIn_20 : decode cX2_putIn 20 = .ok (.iconst 1, 1) := by decide +kernel
theorem dX2_putIn_21 : decode cX2_putIn 21 = .ok (.bipush 100, 2) := by decide +kernel
theorem dX2_putIn_23 : decode cX2_putIn 23 = .ok (.invokestatic 30, 3) := by decide +kernel
theorem dX2_putIn_26 : decode cX2_putIn 26 = .ok (.ifCond .ne 9, 3) := by decide +kernel
theorem dX2_putIn_29 : decode cX2_putIn 29 = .ok (.aload_n 0, 1) := by decide +kernel
theorem dX2_putIn_30 : decode cX2_putIn 30 = .ok (.iconst 1, 1) := by decide +kernel
theorem dX2_putIn_31 : decode cX2_putIn 31 = .ok (.invokevirtual 66, 3) := by decide +kernel
theorem dX2_putIn_34 : decode cX2_putIn 34 = .ok (.ireturn, 1) := by decide +kernel
theorem dX2_putIn_35 : decode cX2_putIn 35 = .ok (.aload_n 0, 1) := by decide +kernel
theorem dX2_putIn_36 : decode cX2_putIn 36 = .ok (.getfield 9, 3) := by decide +kernel
theorem dX2_putIn_39 : decode cX2_putIn 39 = .ok (.iload_n 2, 1) := by decide +kernel
theorem dX2_putIn_40 : decode cX2_putIn 40 = .ok (.iadd, 1) := by decide +kernel
theorem dX2_putIn_41 : decode cX2_putIn 41 = .ok (.sipush 300, 3) := by decide +kernel
theorem dX2_putIn_44 : decode cX2_putIn 44 = .ok (.if_icmp .le 9, 3) := by decide +kernel
theorem dX2_putIn_47 : decode cX2_putIn 47 = .ok (.aload_n 0, 1) := by decide +kernel
theorem dX2_putIn_48 : decode cX2_putIn 48 = .ok (.iconst 2, 1) := by decide +kernel
theorem dX2_putIn_49 : decode cX2_putIn 49 = .ok (.invokevirtual 66, 3) := by decide +kernel
theorem dX2_putIn_52 : decode cX2_putIn 52 = .ok (.ireturn, 1) := by decide +kernel
theorem dX2_putIn_53 : decode cX2_putIn 53 = .ok (.iconst 0, 1) := by decide +kernel
theorem dX2_putIn_54 : decode cX2_putIn 54 = .ok (.istore_n 3, 1) := by decide +kernel
theorem dX2_putIn_55 : decode cX2_putIn 55 = .ok (.iload_n 3, 1) := by decide +kernel
theorem dX2_putIn_56 : decode cX2_putIn 56 = .ok (.aload_n 0, 1) := by decide +kernel
theorem dX2_putIn_57 : decode cX2_putIn 57 = .ok (.getfield 27, 3) := by decide +kernel
theorem dX2_putIn_60 : decode cX2_putIn 60 = .ok (.if_icmp .ge 83, 3) := by decide +kernel
theorem dX2_putIn_63 : decode cX2_putIn 63 = .ok (.aload_n 0, 1) := by decide +kernel
theorem dX2_putIn_64 : decode cX2_putIn 64 = .ok (.iload_n 3, 1) := by decide +kernel
theorem dX2_putIn_65 : decode cX2_putIn 65 = .ok (.iload_n 1, 1) := by decide +kernel
theorem dX2_putIn_66 : decode cX2_putIn 66 = .ok (.iconst 1, 1) := by decide +kernel
theorem dX2_putIn_67 : decode cX2_putIn 67 = .ok (.isub, 1) := by decide +kernel
theorem dX2_putIn_68 : decode cX2_putIn 68 = .ok (.invokevirtual 34, 3) := by decide +kernel
theorem dX2_putIn_71 : decode cX2_putIn 71 = .ok (.ifCond .eq 16, 3) := by decide +kernel
theorem dX2_putIn_74 : decode cX2_putIn 74 = .ok (.aload_n 0, 1) := by decide +kernel
theorem dX2_putIn_75 : decode cX2_putIn 75 = .ok (.iload_n 3, 1) := by decide +kernel
theorem dX2_putIn_76 : decode cX2_putIn 76 = .ok (.iload_n 1, 1) := by decide +kernel
theorem dX2_putIn_77 : decode cX2_putIn 77 = .ok (.invokevirtual 34, 3) := by decide +kernel
theorem dX2_putIn_80 : decode cX2_putIn 80 = .ok (.ifCond .eq 7, 3) := by decide +kernel
theorem dX2_putIn_83 : decode cX2_putIn 83 = .ok (.iconst 1, 1) := by decide +kernel
theorem dX2_putIn_84 : decode cX2_putIn 84 = .ok (.goto 4, 3) := by decide +kernel
theorem dX2_putIn_87 : decode cX2_putIn 87 = .ok (.iconst 0, 1) := by decide +kernel
theorem dX2_putIn_88 : decode cX2_putIn 88 = .ok (.istore 4, 2) := by decide +kernel
theorem dX2_putIn_90 : decode cX2_putIn 90 = .ok (.aload_n 0, 1) := by decide +kernel
theorem dX2_putIn_91 : decode cX2_putIn 91 = .ok (.getfield 9, 3) := by decide +kernel
theorem dX2_putIn_94 : decode cX2_putIn 94 = .ok (.istore 5, 2) := by decide +kernel
theorem dX2_putIn_96 : decode cX2_putIn 96 = .ok (.iload 5, 2) := by decide +kernel
theorem dX2_putIn_98 : decode cX2_putIn 98 = .ok (.iload_n 1, 1) := by decide +kernel
theorem dX2_putIn_99 : decode cX2_putIn 99 = .ok (.if_icmp .lt 25, 3) := by decide +kernel
theorem dX2_putIn_102 : decode cX2_putIn 102 = .ok (.aload_n 0, 1) := by decide +kernel
theorem dX2_putIn_103 : decode cX2_putIn 103 = .ok (.iload_n 3, 1) := by decide +kernel
theorem dX2_putIn_104 : decode cX2_putIn 104 = .ok (.iload 5, 2) := by decide +kernel
theorem dX2_putIn_106 : decode cX2_putIn 106 = .ok (.iload_n 2, 1) := by decide +kernel
theorem dX2_putIn_107 : decode cX2_putIn 107 = .ok (.iadd, 1) := by decide +kernel
theorem dX2_putIn_108 : decode cX2_putIn 108 = .ok (.aload_n 0, 1) := by decide +kernel
theorem dX2_putIn_109 : decode cX2_putIn 109 = .ok (.iload_n 3, 1) := by decide +kernel
theorem dX2_putIn_110 : decode cX2_putIn 110 = .ok (.iload 5, 2) := by decide +kernel
theorem dX2_putIn_112 : decode cX2_putIn 112 = .ok (.invokevirtual 34, 3) := by decide +kernel
theorem dX2_putIn_115 : decode cX2_putIn 115 = .ok (.invokevirtual 69, 3) := by decide +kernel
theorem dX2_putIn_118 : decode cX2_putIn 118 = .ok (.iinc 5 (-1), 3) := by decide +kernel
theorem dX2_putIn_121 : decode cX2_putIn 121 = .ok (.goto (-25), 3) := by decide +kernel
theorem dX2_putIn_124 : decode cX2_putIn 124 = .ok (.aload_n 0, 1) := by decide +kernel
theorem dX2_putIn_125 : decode cX2_putIn 125 = .ok (.iload_n 3, 1) := by decide +kernel
theorem dX2_putIn_126 : decode cX2_putIn 126 = .ok (.iload_n 1, 1) := by decide +kernel
theorem dX2_putIn_127 : decode cX2_putIn 127 = .ok (.iload_n 1, 1) := by decide +kernel
theorem dX2_putIn_128 : decode cX2_putIn 128 = .ok (.iload_n 2, 1) := by decide +kernel
theorem dX2_putIn_129 : decode cX2_putIn 129 = .ok (.iadd, 1) := by decide +kernel
theorem dX2_putIn_130 : decode cX2_putIn 130 = .ok (.iconst 1, 1) := by decide +kernel
theorem dX2_putIn_131 : decode cX2_putIn 131 = .ok (.isub, 1) := by decide +kernel
theorem dX2_putIn_132 : decode cX2_putIn 132 = .ok (.iload 4, 2) := by decide +kernel
theorem dX2_putIn_134 : decode cX2_putIn 134 = .ok (.invokevirtual 84, 3) := by decide +kernel
theorem dX2_putIn_137 : decode cX2_putIn 137 = .ok (.iinc 3 1, 3) := by decide +kernel
theorem dX2_putIn_140 : decode cX2_putIn 140 = .ok (.goto (-85), 3) := by decide +kernel
theorem dX2_putIn_143 : decode cX2_putIn 143 = .ok (.aload_n 0, 1) := by decide +kernel
theorem dX2_putIn_144 : decode cX2_putIn 144 = .ok (.dup, 1) := by decide +kernel
theorem dX2_putIn_145 : decode cX2_putIn 145 = .ok (.getfield 9, 3) := by decide +kernel
theorem dX2_putIn_148 : decode cX2_putIn 148 = .ok (.iload_n 2, 1) := by decide +kernel
theorem dX2_putIn_149 : decode cX2_putIn 149 = .ok (.iadd, 1) := by decide +kernel
theorem dX2_putIn_150 : decode cX2_putIn 150 = .ok (.putfield 9, 3) := by decide +kernel
theorem dX2_putIn_153 : decode cX2_putIn 153 = .ok (.aload_n 0, 1) := by decide +kernel
theorem dX2_putIn_154 : decode cX2_putIn 154 = .ok (.getfield 9, 3) := by decide +kernel
theorem dX2_putIn_157 : decode cX2_putIn 157 = .ok (.ireturn, 1) := by decide +kernel
set_option maxRecDepth 20000 in
theorem ggX2_takeOut_X2_isPage : GoodIn wsX2_takeOut wsX2_isPage := goodIn_r _ [8, 2, 9, 10, 7, 11, 29, 30, 31, 32, 33, 34] (by decide +kernel) (by decide +kernel)
set_option maxRecDepth 20000 in
theorem gX2_takeOut_X2_isPage : GoodIn wsX2_takeOut (wsV RX2 92 RX2 yX2_isPage wsX2_isPage) := goodIn_app (goodIn_of _ (by decide +kernel)) ggX2_takeOut_X2_isPage
set_option maxRecDepth 20000 in
theorem ggX2_takeOut_X2_no : GoodIn wsX2_takeOut wsX2_no := goodIn_r _ [15, 1, 29, 30, 31, 32, 33, 34] (by decide +kernel) (by decide +kernel)
set_option maxRecDepth 20000 in
theorem gX2_takeOut_X2_no : GoodIn wsX2_takeOut (wsV RX2 66 RX2 yX2_no wsX2_no) := goodIn_app (goodIn_of _ (by decide +kernel)) ggX2_takeOut_X2_no
set_option maxRecDepth 20000 in
theorem ggX2_takeOut_X2_onPage : GoodIn wsX2_takeOut wsX2_onPage := goodIn_r _ [19, 3, 20, 21, 22, 7, 23, 24, 29, 30, 31, 32, 33, 34] (by decide +kernel) (by decide +kernel)
set_option maxRecDepth 20000 in
theorem gX2_takeOut_X2_onPage : GoodIn wsX2_takeOut (wsV RX2 45 RX2 yX2_onPage wsX2_onPage) := goodIn_app (goodIn_of _ (by decide +kernel)) ggX2_takeOut_X2_onPage
set_option maxRecDepth 20000 in
theorem ggX2_takeOut_X2_has : GoodIn wsX2_takeOut wsX2_has := goodIn_r _ [23, 24, 29, 30, 31, 32, 33, 34] (by decide +kernel) (by decide +kernel)
set_option maxRecDepth 20000 in
theorem gX2_takeOut_X2_has : GoodIn wsX2_takeOut (wsV RX2 34 RX2 yX2_has wsX2_has) := goodIn_app (goodIn_of _ (by decide +kernel)) ggX2_takeOut_X2_has
set_option maxRecDepth 20000 in
theorem ggX2_takeOut_X2_let : GoodIn wsX2_takeOut wsX2_let := goodIn_r _ [28, 24, 29, 30, 31, 32, 33, 34] (by decide +kernel) (by decide +kernel)
set_option maxRecDepth 20000 in
theorem gX2_takeOut_X2_let : GoodIn wsX2_takeOut (wsV RX2 69 RX2 yX2_let wsX2_let) := goodIn_app (goodIn_of _ (by decide +kernel)) ggX2_takeOut_X2_let
theorem dX2_takeOut_0 : decode cX2_takeOut 0 = .ok (.aload_n 0, 1) := by decide +kernel
theorem dX2_takeOut_1 : decode cX2_takeOut 1 = .ok (.iconst 0, 1) := by decide +kernel
theorem dX2_takeOut_2 : decode cX2_takeOut 2 = .ok (.putfield 24, 3) := by decide +kernel
theorem dX2_takeOut_5 : decode cX2_takeOut 5 = .ok (.aload_n 0, 1) := by decide +kernel
theorem dX2_takeOut_6 : decode cX2_takeOut 6 = .ok (.iload_n 1, 1) := by decide +kernel
theorem dX2_takeOut_7 : decode cX2_takeOut 7 = .ok (.invokevirtual 92, 3) := by decide +kernel
theorem dX2_takeOut_10 : decode cX2_takeOut 10 = .ok (.ifCond .ne 9, 3) := by decide +kernel
theorem dX2_takeOut_13 : decode cX2_takeOut 13 = .ok (.aload_n 0, 1) := by decide +kernel
theorem dX2_takeOut_14 : decode cX2_takeOut 14 = .ok (.iconst 1, 1) := by decide +kernel
theorem dX2_takeOut_15 : decode cX2_takeOut 15 = .ok (.invokevirtual 66, 3) := by decide +kernel
theorem dX2_takeOut_18 : decode cX2_takeOut 18 = .ok (.ireturn, 1) := by decide +kernel
theorem dX2_takeOut_19 : decode cX2_takeOut 19 = .ok (.aload_n 0, 1) := by decide +kernel
theorem dX2_takeOut_20 : decode cX2_takeOut 20 = .ok (.getfield 9, 3) := by decide +kernel
theorem dX2_takeOut_23 : decode cX2_takeOut 23 = .ok (.iconst 1, 1) := by decide +kernel
theorem dX2_takeOut_24 : decode cX2_takeOut 24 = .ok (.if_icmp .ne 9, 3) := by decide +kernel
theorem dX2_takeOut_27 : decode cX2_takeOut 27 = .ok (.aload_n 0, 1) := by decide +kernel
theorem dX2_takeOut_28 : decode cX2_takeOut 28 = .ok (.iconst 2, 1) := by decide +kernel
theorem dX2_takeOut_29 : decode cX2_takeOut 29 = .ok (.invokevirtual 66, 3) := by decide +kernel
theorem dX2_takeOut_32 : decode cX2_takeOut 32 = .ok (.ireturn, 1) := by decide +kernel
theorem dX2_takeOut_33 : decode cX2_takeOut 33 = .ok (.aload_n 0, 1) := by decide +kernel
theorem dX2_takeOut_34 : decode cX2_takeOut 34 = .ok (.iload_n 1, 1) := by decide +kernel
theorem dX2_takeOut_35 : decode cX2_takeOut 35 = .ok (.invokevirtual 45, 3) := by decide +kernel
theorem dX2_takeOut_38 : decode cX2_takeOut 38 = .ok (.istore_n 2, 1) := by decide +kernel
theorem dX2_takeOut_39 : decode cX2_takeOut 39 = .ok (.iconst 0, 1) := by decide +kernel
theorem dX2_takeOut_40 : decode cX2_takeOut 40 = .ok (.istore_n 3, 1) := by decide +kernel
theorem dX2_takeOut_41 : decode cX2_takeOut 41 = .ok (.iload_n 3, 1) := by decide +kernel
theorem dX2_takeOut_42 : decode cX2_takeOut 42 = .ok (.aload_n 0, 1) := by decide +kernel
theorem dX2_takeOut_43 : decode cX2_takeOut 43 = .ok (.getfield 27, 3) := by decide +kernel
theorem dX2_takeOut_46 : decode cX2_takeOut 46 = .ok (.if_icmp .ge 53, 3) := by decide +kernel
theorem dX2_takeOut_49 : decode cX2_takeOut 49 = .ok (.iload_n 1, 1) := by decide +kernel
theorem dX2_takeOut_50 : decode cX2_takeOut 50 = .ok (.istore 4, 2) := by decide +kernel
theorem dX2_takeOut_52 : decode cX2_takeOut 52 = .ok (.iload 4, 2) := by decide +kernel
theorem dX2_takeOut_54 : decode cX2_takeOut 54 = .ok (.aload_n 0, 1) := by decide +kernel
theorem dX2_takeOut_55 : decode cX2_takeOut 55 = .ok (.getfield 9, 3) := by decide +kernel
theorem dX2_takeOut_58 : decode cX2_takeOut 58 = .ok (.if_icmp .ge 25, 3) := by decide +kernel
theorem dX2_takeOut_61 : decode cX2_takeOut 61 = .ok (.aload_n 0, 1) := by decide +kernel
theorem dX2_takeOut_62 : decode cX2_takeOut 62 = .ok (.iload_n 3, 1) := by decide +kernel
theorem dX2_takeOut_63 : decode cX2_takeOut 63 = .ok (.iload 4, 2) := by decide +kernel
theorem dX2_takeOut_65 : decode cX2_takeOut 65 = .ok (.aload_n 0, 1) := by decide +kernel
theorem dX2_takeOut_66 : decode cX2_takeOut 66 = .ok (.iload_n 3, 1) := by decide +kernel
theorem dX2_takeOut_67 : decode cX2_takeOut 67 = .ok (.iload 4, 2) := by decide +kernel
theorem dX2_takeOut_69 : decode cX2_takeOut 69 = .ok (.iconst 1, 1) := by decide +kernel
theorem dX2_takeOut_70 : decode cX2_takeOut 70 = .ok (.iadd, 1) := by decide +kernel
theorem dX2_takeOut_71 : decode cX2_takeOut 71 = .ok (.invokevirtual 34, 3) := by decide +kernel
theorem dX2_takeOut_74 : decode cX2_takeOut 74 = .ok (.invokevirtual 69, 3) := by decide +kernel
theorem dX2_takeOut_77 : decode cX2_takeOut 77 = .ok (.iinc 4 1, 3) := by decide +kernel
theorem dX2_takeOut_80 : decode cX2_takeOut 80 = .ok (.goto (-28), 3) := by decide +kernel
theorem dX2_takeOut_83 : decode cX2_takeOut 83 = .ok (.aload_n 0, 1) := by decide +kernel
theorem dX2_takeOut_84 : decode cX2_takeOut 84 = .ok (.iload_n 3, 1) := by decide +kernel
theorem dX2_takeOut_85 : decode cX2_takeOut 85 = .ok (.aload_n 0, 1) := by decide +kernel
theorem dX2_takeOut_86 : decode cX2_takeOut 86 = .ok (.getfield 9, 3) := by decide +kernel
theorem dX2_takeOut_89 : decode cX2_takeOut 89 = .ok (.iconst 0, 1) := by decide +kernel
theorem dX2_takeOut_90 : decode cX2_takeOut 90 = .ok (.invokevirtual 69, 3) := by decide +kernel
theorem dX2_takeOut_93 : decode cX2_takeOut 93 = .ok (.iinc 3 1, 3) := by decide +kernel
theorem dX2_takeOut_96 : decode cX2_takeOut 96 = .ok (.goto (-55), 3) := by decide +kernel
theorem dX2_takeOut_99 : decode cX2_takeOut 99 = .ok (.aload_n 0, 1) := by decide +kernel
theorem dX2_takeOut_100 : decode cX2_takeOut 100 = .ok (.dup, 1) := by decide +kernel
theorem dX2_takeOut_101 : decode cX2_takeOut 101 = .ok (.getfield 9, 3) := by decide +kernel
theorem dX2_takeOut_104 : decode cX2_takeOut 104 = .ok (.iconst 1, 1) := by decide +kernel
theorem dX2_takeOut_105 : decode cX2_takeOut 105 = .ok (.isub, 1) := by decide +kernel
theorem dX2_takeOut_106 : decode cX2_takeOut 106 = .ok (.putfield 9, 3) := by decide +kernel
theorem dX2_takeOut_109 : decode cX2_takeOut 109 = .ok (.iload_n 2, 1) := by decide +kernel
theorem dX2_takeOut_110 : decode cX2_takeOut 110 = .ok (.ireturn, 1) := by decide +kernel
set_option maxRecDepth 20000 in
theorem ggX2_bookPages_X2_ok : GoodIn wsX2_bookPages wsX2_ok := goodIn_r _ [6, 7, 8, 9, 10, 11, 12, 13] (by decide +kernel) (by decide +kernel)
set_option maxRecDepth 20000 in
theorem gX2_bookPages_X2_ok : GoodIn wsX2_bookPages (wsV RX2 95 RX2 yX2_ok wsX2_ok) := goodIn_app (goodIn_of _ (by decide +kernel)) ggX2_bookPages_X2_ok
theorem dX2_bookPages_0 : decode cX2_bookPages 0 = .ok (.aload_n 0, 1) := by decide +kernel
theorem dX2_bookPages_1 : decode cX2_bookPages 1 = .ok (.aload_n 0, 1) := by decide +kernel
theorem dX2_bookPages_2 : decode cX2_bookPages 2 = .ok (.getfield 9, 3) := by decide +kernel
theorem dX2_bookPages_5 : decode cX2_bookPages 5 = .ok (.invokevirtual 95, 3) := by decide +kernel
theorem dX2_bookPages_8 : decode cX2_bookPages 8 = .ok (.ireturn, 1) := by decide +kernel
set_option maxRecDepth 20000 in
theorem ggX2_headings_X2_ok : GoodIn wsX2_headings wsX2_ok := goodIn_r _ [6, 7, 8, 9, 10, 11, 12, 13] (by decide +kernel) (by decide +kernel)
set_option maxRecDepth 20000 in
theorem gX2_headings_X2_ok : GoodIn wsX2_headings (wsV RX2 95 RX2 yX2_ok wsX2_ok) := goodIn_app (goodIn_of _ (by decide +kernel)) ggX2_headings_X2_ok
theorem dX2_headings_0 : decode cX2_headings 0 = .ok (.aload_n 0, 1) := by decide +kernel
theorem dX2_headings_1 : decode cX2_headings 1 = .ok (.aload_n 0, 1) := by decide +kernel
theorem dX2_headings_2 : decode cX2_headings 2 = .ok (.getfield 27, 3) := by decide +kernel
theorem dX2_headings_5 : decode cX2_headings 5 = .ok (.invokevirtual 95, 3) := by decide +kernel
theorem dX2_headings_8 : decode cX2_headings 8 = .ok (.ireturn, 1) := by decide +kernel
set_option maxRecDepth 20000 in
theorem ggX2_spansOf_X2_isHeading : GoodIn wsX2_spansOf wsX2_isHeading := goodIn_r _ [6, 7, 8, 9, 5, 10, 25, 26, 27, 28, 29, 30] (by decide +kernel) (by decide +kernel)
set_option maxRecDepth 20000 in
theorem gX2_spansOf_X2_isHeading : GoodIn wsX2_spansOf (wsV RX2 73 RX2 yX2_isHeading wsX2_isHeading) := goodIn_app (goodIn_of _ (by decide +kernel)) ggX2_spansOf_X2_isHeading
set_option maxRecDepth 20000 in
theorem ggX2_spansOf_X2_spans : GoodIn wsX2_spansOf wsX2_spans := goodIn_r _ [14, 15, 16, 17, 18, 5, 19, 20, 25, 26, 27, 28, 29, 30] (by decide +kernel) (by decide +kernel)
set_option maxRecDepth 20000 in
theorem gX2_spansOf_X2_spans : GoodIn wsX2_spansOf (wsV RX2 88 RX2 yX2_spans wsX2_spans) := goodIn_app (goodIn_of _ (by decide +kernel)) ggX2_spansOf_X2_spans
set_option maxRecDepth 20000 in
theorem ggX2_spansOf_X2_no : GoodIn wsX2_spansOf wsX2_no := goodIn_r _ [24, 1, 25, 26, 27, 28, 29, 30] (by decide +kernel) (by decide +kernel)
set_option maxRecDepth 20000 in
theorem gX2_spansOf_X2_no : GoodIn wsX2_spansOf (wsV RX2 66 RX2 yX2_no wsX2_no) := goodIn_app (goodIn_of _ (by decide +kernel)) ggX2_spansOf_X2_no
theorem dX2_spansOf_0 : decode cX2_spansOf 0 = .ok (.aload_n 0, 1) := by decide +kernel
theorem dX2_spansOf_1 : decode cX2_spansOf 1 = .ok (.iconst 0, 1) := by decide +kernel
theorem dX2_spansOf_2 : decode cX2_spansOf 2 = .ok (.putfield 24, 3) := by decide +kernel
theorem dX2_spansOf_5 : decode cX2_spansOf 5 = .ok (.aload_n 0, 1) := by decide +kernel
theorem dX2_spansOf_6 : decode cX2_spansOf 6 = .ok (.iload_n 1, 1) := by decide +kernel
theorem dX2_spansOf_7 : decode cX2_spansOf 7 = .ok (.invokevirtual 73, 3) := by decide +kernel
theorem dX2_spansOf_10 : decode cX2_spansOf 10 = .ok (.ifCond .eq 13, 3) := by decide +kernel
theorem dX2_spansOf_13 : decode cX2_spansOf 13 = .ok (.aload_n 0, 1) := by decide +kernel
theorem dX2_spansOf_14 : decode cX2_spansOf 14 = .ok (.iload_n 1, 1) := by decide +kernel
theorem dX2_spansOf_15 : decode cX2_spansOf 15 = .ok (.iload_n 1, 1) := by decide +kernel
theorem dX2_spansOf_16 : decode cX2_spansOf 16 = .ok (.iconst 0, 1) := by decide +kernel
theorem dX2_spansOf_17 : decode cX2_spansOf 17 = .ok (.invokevirtual 88, 3) := by decide +kernel
theorem dX2_spansOf_20 : decode cX2_spansOf 20 = .ok (.goto 8, 3) := by decide +kernel
theorem dX2_spansOf_23 : decode cX2_spansOf 23 = .ok (.aload_n 0, 1) := by decide +kernel
theorem dX2_spansOf_24 : decode cX2_spansOf 24 = .ok (.iconst 1, 1) := by decide +kernel
theorem dX2_spansOf_25 : decode cX2_spansOf 25 = .ok (.invokevirtual 66, 3) := by decide +kernel
theorem dX2_spansOf_28 : decode cX2_spansOf 28 = .ok (.ireturn, 1) := by decide +kernel
set_option maxRecDepth 20000 in
theorem ggX2_isSpan_X2_isHeading : GoodIn wsX2_isSpan wsX2_isHeading := goodIn_r _ [5, 6, 7, 8, 4, 9, 20, 21, 22, 23, 24, 25] (by decide +kernel) (by decide +kernel)
set_option maxRecDepth 20000 in
theorem gX2_isSpan_X2_isHeading : GoodIn wsX2_isSpan (wsV RX2 73 RX2 yX2_isHeading wsX2_isHeading) := goodIn_app (goodIn_of _ (by decide +kernel)) ggX2_isSpan_X2_isHeading
set_option maxRecDepth 20000 in
theorem ggX2_isSpan_X2_spans : GoodIn wsX2_isSpan wsX2_spans := goodIn_r _ [13, 14, 15, 16, 17, 4, 18, 19, 20, 21, 22, 23, 24, 25] (by decide +kernel) (by decide +kernel)
set_option maxRecDepth 20000 in
theorem gX2_isSpan_X2_spans : GoodIn wsX2_isSpan (wsV RX2 88 RX2 yX2_spans wsX2_spans) := goodIn_app (goodIn_of _ (by decide +kernel)) ggX2_isSpan_X2_spans
set_option maxRecDepth 20000 in
theorem ggX2_isSpan_X2_isIn : GoodIn wsX2_isSpan wsX2_isIn := goodIn_r _ [9] (by decide +kernel) (by decide +kernel)
set_option maxRecDepth 20000 in
theorem gX2_isSpan_X2_isIn : GoodIn wsX2_isSpan (va_wsS RX2 30 yX2_isIn wsX2_isIn) := goodIn_app (goodIn_of _ (by decide +kernel)) ggX2_isSpan_X2_isIn
theorem dX2_isSpan_0 : decode cX2_isSpan 0 = .ok (.aload_n 0, 1) := by decide +kernel
theorem dX2_isSpan_1 : decode cX2_isSpan 1 = .ok (.iload_n 1, 1) := by decide +kernel
theorem dX2_isSpan_2 : decode cX2_isSpan 2 = .ok (.invokevirtual 73, 3) := by decide +kernel
theorem dX2_isSpan_5 : decode cX2_isSpan 5 = .ok (.ifCond .eq 24, 3) := by decide +kernel
theorem dX2_isSpan_8 : decode cX2_isSpan 8 = .ok (.iload_n 2, 1) := by decide +kernel
theorem dX2_isSpan_9 : decode cX2_isSpan 9 = .ok (.iconst 0, 1) := by decide +kernel
theorem dX2_isSpan_10 : decode cX2_isSpan 10 = .ok (.aload_n 0, 1) := by decide +kernel
theorem dX2_isSpan_11 : decode cX2_isSpan 11 = .ok (.iload_n 1, 1) := by decide +kernel
theorem dX2_isSpan_12 : decode cX2_isSpan 12 = .ok (.iload_n 1, 1) := by decide +kernel
theorem dX2_isSpan_13 : decode cX2_isSpan 13 = .ok (.iconst 0, 1) := by decide +kernel
theorem dX2_isSpan_14 : decode cX2_isSpan 14 = .ok (.invokevirtual 88, 3) := by decide +kernel
theorem dX2_isSpan_17 : decode cX2_isSpan 17 = .ok (.iconst 1, 1) := by decide +kernel
theorem dX2_isSpan_18 : decode cX2_isSpan 18 = .ok (.isub, 1) := by decide +kernel
theorem dX2_isSpan_19 : decode cX2_isSpan 19 = .ok (.invokestatic 30, 3) := by decide +kernel
theorem dX2_isSpan_22 : decode cX2_isSpan 22 = .ok (.ifCond .eq 7, 3) := by decide +kernel
theorem dX2_isSpan_25 : decode cX2_isSpan 25 = .ok (.iconst 1, 1) := by decide +kernel
theorem dX2_isSpan_26 : decode cX2_isSpan 26 = .ok (.goto 4, 3) := by decide +kernel
theorem dX2_isSpan_29 : decode cX2_isSpan 29 = .ok (.iconst 0, 1) := by decide +kernel
theorem dX2_isSpan_30 : decode cX2_isSpan 30 = .ok (.ireturn, 1) := by decide +kernel
set_option maxRecDepth 20000 in
theorem ggX2_startOf_X2_isSpan : GoodIn wsX2_startOf wsX2_isSpan := goodIn_r _ [6, 7, 8, 9, 5, 10, 11, 12, 13, 14, 15, 16, 17, 18, 19, 20, 21, 22, 23, 24, 33, 34, 35, 36, 37, 38] (by decide +kernel) (by decide +kernel)
set_option maxRecDepth 20000 in
theorem gX2_startOf_X2_isSpan : GoodIn wsX2_startOf (wsV RX2 98 RX2 yX2_isSpan wsX2_isSpan) := goodIn_app (goodIn_of _ (by decide +kernel)) ggX2_startOf_X2_isSpan
set_option maxRecDepth 20000 in
theorem ggX2_startOf_X2_begins : GoodIn wsX2_startOf wsX2_begins := goodIn_r _ [28, 20, 21, 22, 5, 23, 24, 33, 34, 35, 36, 37, 38] (by decide +kernel) (by decide +kernel)
set_option maxRecDepth 20000 in
theorem gX2_startOf_X2_begins : GoodIn wsX2_startOf (wsV RX2 38 RX2 yX2_begins wsX2_begins) := goodIn_app (goodIn_of _ (by decide +kernel)) ggX2_startOf_X2_begins
set_option maxRecDepth 20000 in
theorem ggX2_startOf_X2_no : GoodIn wsX2_startOf wsX2_no := goodIn_r _ [32, 1, 33, 34, 35, 36, 37, 38] (by decide +kernel) (by decide +kernel)
set_option maxRecDepth 20000 in
theorem gX2_startOf_X2_no : GoodIn wsX2_startOf (wsV RX2 66 RX2 yX2_no wsX2_no) := goodIn_app (goodIn_of _ (by decide +kernel)) ggX2_startOf_X2_no
theorem dX2_startOf_0 : decode cX2_startOf 0 = .ok (.aload_n 0, 1) := by decide +kernel
theorem dX2_startOf_1 : decode cX2_startOf 1 = .ok (.iconst 0, 1) := by decide +kernel
theorem dX2_startOf_2 : decode cX2_startOf 2 = .ok (.putfield 24, 3) := by decide +kernel
theorem dX2_startOf_5 : decode cX2_startOf 5 = .ok (.aload_n 0, 1) := by decide +kernel
theorem dX2_startOf_6 : decode cX2_startOf 6 = .ok (.iload_n 1, 1) := by decide +kernel
theorem dX2_startOf_7 : decode cX2_startOf 7 = .ok (.iload_n 2, 1) := by decide +kernel
theorem dX2_startOf_8 : decode cX2_startOf 8 = .ok (.invokevirtual 98, 3) := by decide +kernel
theorem dX2_startOf_11 : decode cX2_startOf 11 = .ok (.ifCond .eq 12, 3) := by decide +kernel
theorem dX2_startOf_14 : decode cX2_startOf 14 = .ok (.aload_n 0, 1) := by decide +kernel
theorem dX2_startOf_15 : decode cX2_startOf 15 = .ok (.iload_n 1, 1) := by decide +kernel
theorem dX2_startOf_16 : decode cX2_startOf 16 = .ok (.iload_n 2, 1) := by decide +kernel
theorem dX2_startOf_17 : decode cX2_startOf 17 = .ok (.invokevirtual 38, 3) := by decide +kernel
theorem dX2_startOf_20 : decode cX2_startOf 20 = .ok (.goto 8, 3) := by decide +kernel
theorem dX2_startOf_23 : decode cX2_startOf 23 = .ok (.aload_n 0, 1) := by decide +kernel
theorem dX2_startOf_24 : decode cX2_startOf 24 = .ok (.iconst 1, 1) := by decide +kernel
theorem dX2_startOf_25 : decode cX2_startOf 25 = .ok (.invokevirtual 66, 3) := by decide +kernel
theorem dX2_startOf_28 : decode cX2_startOf 28 = .ok (.ireturn, 1) := by decide +kernel
set_option maxRecDepth 20000 in
theorem ggX2_endOf_X2_isSpan : GoodIn wsX2_endOf wsX2_isSpan := goodIn_r _ [6, 7, 8, 9, 5, 10, 11, 12, 13, 14, 15, 16, 17, 18, 19, 20, 21, 22, 23, 24, 37, 38, 39, 40, 41, 42] (by decide +kernel) (by decide +kernel)
set_option maxRecDepth 20000 in
theorem gX2_endOf_X2_isSpan : GoodIn wsX2_endOf (wsV RX2 98 RX2 yX2_isSpan wsX2_isSpan) := goodIn_app (goodIn_of _ (by decide +kernel)) ggX2_endOf_X2_isSpan
set_option maxRecDepth 20000 in
theorem ggX2_endOf_X2_ends : GoodIn wsX2_endOf wsX2_ends := goodIn_r _ [28, 29, 30, 31, 5, 32, 20, 21, 22, 23, 24, 37, 38, 39, 40, 41, 42] (by decide +kernel) (by decide +kernel)
set_option maxRecDepth 20000 in
theorem gX2_endOf_X2_ends : GoodIn wsX2_endOf (wsV RX2 101 RX2 yX2_ends wsX2_ends) := goodIn_app (goodIn_of _ (by decide +kernel)) ggX2_endOf_X2_ends
set_option maxRecDepth 20000 in
theorem ggX2_endOf_X2_no : GoodIn wsX2_endOf wsX2_no := goodIn_r _ [36, 1, 37, 38, 39, 40, 41, 42] (by decide +kernel) (by decide +kernel)
set_option maxRecDepth 20000 in
theorem gX2_endOf_X2_no : GoodIn wsX2_endOf (wsV RX2 66 RX2 yX2_no wsX2_no) := goodIn_app (goodIn_of _ (by decide +kernel)) ggX2_endOf_X2_no
theorem dX2_endOf_0 : decode cX2_endOf 0 = .ok (.aload_n 0, 1) := by decide +kernel
theorem dX2_endOf_1 : decode cX2_endOf 1 = .ok (.iconst 0, 1) := by decide +kernel
theorem dX2_endOf_2 : decode cX2_endOf 2 = .ok (.putfield 24, 3) := by decide +kernel
theorem dX2_endOf_5 : decode cX2_endOf 5 = .ok (.aload_n 0, 1) := by decide +kernel
theorem dX2_endOf_6 : decode cX2_endOf 6 = .ok (.iload_n 1, 1) := by decide +kernel
theorem dX2_endOf_7 : decode cX2_endOf 7 = .ok (.iload_n 2, 1) := by decide +kernel
theorem dX2_endOf_8 : decode cX2_endOf 8 = .ok (.invokevirtual 98, 3) := by decide +kernel
theorem dX2_endOf_11 : decode cX2_endOf 11 = .ok (.ifCond .eq 12, 3) := by decide +kernel
theorem dX2_endOf_14 : decode cX2_endOf 14 = .ok (.aload_n 0, 1) := by decide +kernel
theorem dX2_endOf_15 : decode cX2_endOf 15 = .ok (.iload_n 1, 1) := by decide +kernel
theorem dX2_endOf_16 : decode cX2_endOf 16 = .ok (.iload_n 2, 1) := by decide +kernel
theorem dX2_endOf_17 : decode cX2_endOf 17 = .ok (.invokevirtual 101, 3) := by decide +kernel
theorem dX2_endOf_20 : decode cX2_endOf 20 = .ok (.goto 8, 3) := by decide +kernel
theorem dX2_endOf_23 : decode cX2_endOf 23 = .ok (.aload_n 0, 1) := by decide +kernel
theorem dX2_endOf_24 : decode cX2_endOf 24 = .ok (.iconst 1, 1) := by decide +kernel
theorem dX2_endOf_25 : decode cX2_endOf 25 = .ok (.invokevirtual 66, 3) := by decide +kernel
theorem dX2_endOf_28 : decode cX2_endOf 28 = .ok (.ireturn, 1) := by decide +kernel
set_option maxRecDepth 20000 in
theorem ggX2_pagesOf_X2_isHeading : GoodIn wsX2_pagesOf wsX2_isHeading := goodIn_r _ [6, 7, 8, 9, 5, 10, 25, 26, 27, 28, 29, 30] (by decide +kernel) (by decide +kernel)
set_option maxRecDepth 20000 in
theorem gX2_pagesOf_X2_isHeading : GoodIn wsX2_pagesOf (wsV RX2 73 RX2 yX2_isHeading wsX2_isHeading) := goodIn_app (goodIn_of _ (by decide +kernel)) ggX2_pagesOf_X2_isHeading
set_option maxRecDepth 20000 in
theorem ggX2_pagesOf_X2_many : GoodIn wsX2_pagesOf wsX2_many := goodIn_r _ [14, 15, 16, 17, 18, 5, 19, 20, 25, 26, 27, 28, 29, 30] (by decide +kernel) (by decide +kernel)
set_option maxRecDepth 20000 in
theorem gX2_pagesOf_X2_many : GoodIn wsX2_pagesOf (wsV RX2 52 RX2 yX2_many wsX2_many) := goodIn_app (goodIn_of _ (by decide +kernel)) ggX2_pagesOf_X2_many
set_option maxRecDepth 20000 in
theorem ggX2_pagesOf_X2_no : GoodIn wsX2_pagesOf wsX2_no := goodIn_r _ [24, 1, 25, 26, 27, 28, 29, 30] (by decide +kernel) (by decide +kernel)
set_option maxRecDepth 20000 in
theorem gX2_pagesOf_X2_no : GoodIn wsX2_pagesOf (wsV RX2 66 RX2 yX2_no wsX2_no) := goodIn_app (goodIn_of _ (by decide +kernel)) ggX2_pagesOf_X2_no
theorem dX2_pagesOf_0 : decode cX2_pagesOf 0 = .ok (.aload_n 0, 1) := by decide +kernel
theorem dX2_pagesOf_1 : decode cX2_pagesOf 1 = .ok (.iconst 0, 1) := by decide +kernel
theorem dX2_pagesOf_2 : decode cX2_pagesOf 2 = .ok (.putfield 24, 3) := by decide +kernel
theorem dX2_pagesOf_5 : decode cX2_pagesOf 5 = .ok (.aload_n 0, 1) := by decide +kernel
theorem dX2_pagesOf_6 : decode cX2_pagesOf 6 = .ok (.iload_n 1, 1) := by decide +kernel
theorem dX2_pagesOf_7 : decode cX2_pagesOf 7 = .ok (.invokevirtual 73, 3) := by decide +kernel
theorem dX2_pagesOf_10 : decode cX2_pagesOf 10 = .ok (.ifCond .eq 11, 3) := by decide +kernel
theorem dX2_pagesOf_13 : decode cX2_pagesOf 13 = .ok (.aload_n 0, 1) := by decide +kernel
theorem dX2_pagesOf_14 : decode cX2_pagesOf 14 = .ok (.iload_n 1, 1) := by decide +kernel
theorem dX2_pagesOf_15 : decode cX2_pagesOf 15 = .ok (.invokevirtual 52, 3) := by decide +kernel
theorem dX2_pagesOf_18 : decode cX2_pagesOf 18 = .ok (.goto 8, 3) := by decide +kernel
theorem dX2_pagesOf_21 : decode cX2_pagesOf 21 = .ok (.aload_n 0, 1) := by decide +kernel
theorem dX2_pagesOf_22 : decode cX2_pagesOf 22 = .ok (.iconst 1, 1) := by decide +kernel
theorem dX2_pagesOf_23 : decode cX2_pagesOf 23 = .ok (.invokevirtual 66, 3) := by decide +kernel
theorem dX2_pagesOf_26 : decode cX2_pagesOf 26 = .ok (.ireturn, 1) := by decide +kernel
set_option maxRecDepth 20000 in
theorem ggX2_seeOf_X2_isHeading : GoodIn wsX2_seeOf wsX2_isHeading := goodIn_r _ [7, 8, 9, 10, 6, 11, 16, 17, 18, 19, 20, 21] (by decide +kernel) (by decide +kernel)
set_option maxRecDepth 20000 in
theorem gX2_seeOf_X2_isHeading : GoodIn wsX2_seeOf (wsV RX2 73 RX2 yX2_isHeading wsX2_isHeading) := goodIn_app (goodIn_of _ (by decide +kernel)) ggX2_seeOf_X2_isHeading
set_option maxRecDepth 20000 in
theorem ggX2_seeOf_X2_no : GoodIn wsX2_seeOf wsX2_no := goodIn_r _ [15, 1, 16, 17, 18, 19, 20, 21] (by decide +kernel) (by decide +kernel)
set_option maxRecDepth 20000 in
theorem gX2_seeOf_X2_no : GoodIn wsX2_seeOf (wsV RX2 66 RX2 yX2_no wsX2_no) := goodIn_app (goodIn_of _ (by decide +kernel)) ggX2_seeOf_X2_no
theorem dX2_seeOf_0 : decode cX2_seeOf 0 = .ok (.aload_n 0, 1) := by decide +kernel
theorem dX2_seeOf_1 : decode cX2_seeOf 1 = .ok (.iconst 0, 1) := by decide +kernel
theorem dX2_seeOf_2 : decode cX2_seeOf 2 = .ok (.putfield 24, 3) := by decide +kernel
theorem dX2_seeOf_5 : decode cX2_seeOf 5 = .ok (.aload_n 0, 1) := by decide +kernel
theorem dX2_seeOf_6 : decode cX2_seeOf 6 = .ok (.iload_n 1, 1) := by decide +kernel
theorem dX2_seeOf_7 : decode cX2_seeOf 7 = .ok (.invokevirtual 73, 3) := by decide +kernel
theorem dX2_seeOf_10 : decode cX2_seeOf 10 = .ok (.ifCond .eq 12, 3) := by decide +kernel
theorem dX2_seeOf_13 : decode cX2_seeOf 13 = .ok (.aload_n 0, 1) := by decide +kernel
theorem dX2_seeOf_14 : decode cX2_seeOf 14 = .ok (.getfield 17, 3) := by decide +kernel
theorem dX2_seeOf_17 : decode cX2_seeOf 17 = .ok (.iload_n 1, 1) := by decide +kernel
theorem dX2_seeOf_18 : decode cX2_seeOf 18 = .ok (.iaload, 1) := by decide +kernel
theorem dX2_seeOf_19 : decode cX2_seeOf 19 = .ok (.goto 8, 3) := by decide +kernel
theorem dX2_seeOf_22 : decode cX2_seeOf 22 = .ok (.aload_n 0, 1) := by decide +kernel
theorem dX2_seeOf_23 : decode cX2_seeOf 23 = .ok (.iconst 1, 1) := by decide +kernel
theorem dX2_seeOf_24 : decode cX2_seeOf 24 = .ok (.invokevirtual 66, 3) := by decide +kernel
theorem dX2_seeOf_27 : decode cX2_seeOf 27 = .ok (.ireturn, 1) := by decide +kernel
set_option maxRecDepth 20000 in
theorem ggX2_seeAlsosOf_X2_isHeading : GoodIn wsX2_seeAlsosOf wsX2_isHeading := goodIn_r _ [7, 8, 9, 10, 6, 11, 23, 24, 25, 26, 27, 28] (by decide +kernel) (by decide +kernel)
set_option maxRecDepth 20000 in
theorem gX2_seeAlsosOf_X2_isHeading : GoodIn wsX2_seeAlsosOf (wsV RX2 73 RX2 yX2_isHeading wsX2_isHeading) := goodIn_app (goodIn_of _ (by decide +kernel)) ggX2_seeAlsosOf_X2_isHeading
set_option maxRecDepth 20000 in
theorem ggX2_seeAlsosOf_J6_bitCount_0f7a4 : GoodIn wsX2_seeAlsosOf wsJ6_bitCount_0f7a4 := goodIn_r _ [15, 16, 17, 18] (by decide +kernel) (by decide +kernel)
set_option maxRecDepth 20000 in
theorem gX2_seeAlsosOf_J6_bitCount_0f7a4 : GoodIn wsX2_seeAlsosOf (va_wsS RX2 61 yJ6_bitCount_0f7a4 wsJ6_bitCount_0f7a4) := goodIn_app (goodIn_of _ (by decide +kernel)) ggX2_seeAlsosOf_J6_bitCount_0f7a4
set_option maxRecDepth 20000 in
theorem ggX2_seeAlsosOf_X2_no : GoodIn wsX2_seeAlsosOf wsX2_no := goodIn_r _ [22, 1, 23, 24, 25, 26, 27, 28] (by decide +kernel) (by decide +kernel)
set_option maxRecDepth 20000 in
theorem gX2_seeAlsosOf_X2_no : GoodIn wsX2_seeAlsosOf (wsV RX2 66 RX2 yX2_no wsX2_no) := goodIn_app (goodIn_of _ (by decide +kernel)) ggX2_seeAlsosOf_X2_no
theorem dX2_seeAlsosOf_0 : decode cX2_seeAlsosOf 0 = .ok (.aload_n 0, 1) := by decide +kernel
theorem dX2_seeAlsosOf_1 : decode cX2_seeAlsosOf 1 = .ok (.iconst 0, 1) := by decide +kernel
theorem dX2_seeAlsosOf_2 : decode cX2_seeAlsosOf 2 = .ok (.putfield 24, 3) := by decide +kernel
theorem dX2_seeAlsosOf_5 : decode cX2_seeAlsosOf 5 = .ok (.aload_n 0, 1) := by decide +kernel
theorem dX2_seeAlsosOf_6 : decode cX2_seeAlsosOf 6 = .ok (.iload_n 1, 1) := by decide +kernel
theorem dX2_seeAlsosOf_7 : decode cX2_seeAlsosOf 7 = .ok (.invokevirtual 73, 3) := by decide +kernel
theorem dX2_seeAlsosOf_10 : decode cX2_seeAlsosOf 10 = .ok (.ifCond .eq 15, 3) := by decide +kernel
theorem dX2_seeAlsosOf_13 : decode cX2_seeAlsosOf 13 = .ok (.aload_n 0, 1) := by decide +kernel
theorem dX2_seeAlsosOf_14 : decode cX2_seeAlsosOf 14 = .ok (.getfield 21, 3) := by decide +kernel
theorem dX2_seeAlsosOf_17 : decode cX2_seeAlsosOf 17 = .ok (.iload_n 1, 1) := by decide +kernel
theorem dX2_seeAlsosOf_18 : decode cX2_seeAlsosOf 18 = .ok (.iaload, 1) := by decide +kernel
theorem dX2_seeAlsosOf_19 : decode cX2_seeAlsosOf 19 = .ok (.invokestatic 61, 3) := by decide +kernel
theorem dX2_seeAlsosOf_22 : decode cX2_seeAlsosOf 22 = .ok (.goto 8, 3) := by decide +kernel
theorem dX2_seeAlsosOf_25 : decode cX2_seeAlsosOf 25 = .ok (.aload_n 0, 1) := by decide +kernel
theorem dX2_seeAlsosOf_26 : decode cX2_seeAlsosOf 26 = .ok (.iconst 1, 1) := by decide +kernel
theorem dX2_seeAlsosOf_27 : decode cX2_seeAlsosOf 27 = .ok (.invokevirtual 66, 3) := by decide +kernel
theorem dX2_seeAlsosOf_30 : decode cX2_seeAlsosOf 30 = .ok (.ireturn, 1) := by decide +kernel
set_option maxRecDepth 20000 in
theorem ggX2_isOn_X2_isHeading : GoodIn wsX2_isOn wsX2_isHeading := goodIn_r _ [6, 7, 8, 9, 5, 10, 25, 26, 27, 28, 29, 30] (by decide +kernel) (by decide +kernel)
set_option maxRecDepth 20000 in
theorem gX2_isOn_X2_isHeading : GoodIn wsX2_isOn (wsV RX2 73 RX2 yX2_isHeading wsX2_isHeading) := goodIn_app (goodIn_of _ (by decide +kernel)) ggX2_isOn_X2_isHeading
set_option maxRecDepth 20000 in
theorem ggX2_isOn_X2_isNot : GoodIn wsX2_isOn wsX2_isNot := goodIn_r _ [14, 1, 25, 26, 27, 28, 29, 30] (by decide +kernel) (by decide +kernel)
set_option maxRecDepth 20000 in
theorem gX2_isOn_X2_isNot : GoodIn wsX2_isOn (wsV RX2 104 RX2 yX2_isNot wsX2_isNot) := goodIn_app (goodIn_of _ (by decide +kernel)) ggX2_isOn_X2_isNot
set_option maxRecDepth 20000 in
theorem ggX2_isOn_X2_isPage : GoodIn wsX2_isOn wsX2_isPage := goodIn_r _ [18, 19, 8, 9, 5, 10, 25, 26, 27, 28, 29, 30] (by decide +kernel) (by decide +kernel)
set_option maxRecDepth 20000 in
theorem gX2_isOn_X2_isPage : GoodIn wsX2_isOn (wsV RX2 92 RX2 yX2_isPage wsX2_isPage) := goodIn_app (goodIn_of _ (by decide +kernel)) ggX2_isOn_X2_isPage
set_option maxRecDepth 20000 in
theorem ggX2_isOn_X2_has : GoodIn wsX2_isOn wsX2_has := goodIn_r _ [23, 24, 25, 26, 27, 28, 29, 30] (by decide +kernel) (by decide +kernel)
set_option maxRecDepth 20000 in
theorem gX2_isOn_X2_has : GoodIn wsX2_isOn (wsV RX2 34 RX2 yX2_has wsX2_has) := goodIn_app (goodIn_of _ (by decide +kernel)) ggX2_isOn_X2_has
theorem dX2_isOn_0 : decode cX2_isOn 0 = .ok (.aload_n 0, 1) := by decide +kernel
theorem dX2_isOn_1 : decode cX2_isOn 1 = .ok (.iconst 0, 1) := by decide +kernel
theorem dX2_isOn_2 : decode cX2_isOn 2 = .ok (.putfield 24, 3) := by decide +kernel
theorem dX2_isOn_5 : decode cX2_isOn 5 = .ok (.aload_n 0, 1) := by decide +kernel
theorem dX2_isOn_6 : decode cX2_isOn 6 = .ok (.iload_n 1, 1) := by decide +kernel
theorem dX2_isOn_7 : decode cX2_isOn 7 = .ok (.invokevirtual 73, 3) := by decide +kernel
theorem dX2_isOn_10 : decode cX2_isOn 10 = .ok (.ifCond .ne 9, 3) := by decide +kernel
theorem dX2_isOn_13 : decode cX2_isOn 13 = .ok (.aload_n 0, 1) := by decide +kernel
theorem dX2_isOn_14 : decode cX2_isOn 14 = .ok (.iconst 1, 1) := by decide +kernel
theorem dX2_isOn_15 : decode cX2_isOn 15 = .ok (.invokevirtual 104, 3) := by decide +kernel
theorem dX2_isOn_18 : decode cX2_isOn 18 = .ok (.ireturn, 1) := by decide +kernel
theorem dX2_isOn_19 : decode cX2_isOn 19 = .ok (.aload_n 0, 1) := by decide +kernel
theorem dX2_isOn_20 : decode cX2_isOn 20 = .ok (.iload_n 2, 1) := by decide +kernel
theorem dX2_isOn_21 : decode cX2_isOn 21 = .ok (.invokevirtual 92, 3) := by decide +kernel
theorem dX2_isOn_24 : decode cX2_isOn 24 = .ok (.ifCond .eq 12, 3) := by decide +kernel
theorem dX2_isOn_27 : decode cX2_isOn 27 = .ok (.aload_n 0, 1) := by decide +kernel
theorem dX2_isOn_28 : decode cX2_isOn 28 = .ok (.iload_n 1, 1) := by decide +kernel
theorem dX2_isOn_29 : decode cX2_isOn 29 = .ok (.iload_n 2, 1) := by decide +kernel
theorem dX2_isOn_30 : decode cX2_isOn 30 = .ok (.invokevirtual 34, 3) := by decide +kernel
theorem dX2_isOn_33 : decode cX2_isOn 33 = .ok (.goto 8, 3) := by decide +kernel
theorem dX2_isOn_36 : decode cX2_isOn 36 = .ok (.aload_n 0, 1) := by decide +kernel
theorem dX2_isOn_37 : decode cX2_isOn 37 = .ok (.iconst 2, 1) := by decide +kernel
theorem dX2_isOn_38 : decode cX2_isOn 38 = .ok (.invokevirtual 104, 3) := by decide +kernel
theorem dX2_isOn_41 : decode cX2_isOn 41 = .ok (.ireturn, 1) := by decide +kernel
set_option maxRecDepth 20000 in
theorem ggX2_headingsOn_X2_isPage : GoodIn wsX2_headingsOn wsX2_isPage := goodIn_r _ [6, 7, 8, 9, 5, 10, 25, 26, 27, 28, 29, 30] (by decide +kernel) (by decide +kernel)
set_option maxRecDepth 20000 in
theorem gX2_headingsOn_X2_isPage : GoodIn wsX2_headingsOn (wsV RX2 92 RX2 yX2_isPage wsX2_isPage) := goodIn_app (goodIn_of _ (by decide +kernel)) ggX2_headingsOn_X2_isPage
set_option maxRecDepth 20000 in
theorem ggX2_headingsOn_X2_onPage : GoodIn wsX2_headingsOn wsX2_onPage := goodIn_r _ [14, 15, 16, 17, 18, 5, 19, 20, 25, 26, 27, 28, 29, 30] (by decide +kernel) (by decide +kernel)
set_option maxRecDepth 20000 in
theorem gX2_headingsOn_X2_onPage : GoodIn wsX2_headingsOn (wsV RX2 45 RX2 yX2_onPage wsX2_onPage) := goodIn_app (goodIn_of _ (by decide +kernel)) ggX2_headingsOn_X2_onPage
set_option maxRecDepth 20000 in
theorem ggX2_headingsOn_X2_no : GoodIn wsX2_headingsOn wsX2_no := goodIn_r _ [24, 1, 25, 26, 27, 28, 29, 30] (by decide +kernel) (by decide +kernel)
set_option maxRecDepth 20000 in
theorem gX2_headingsOn_X2_no : GoodIn wsX2_headingsOn (wsV RX2 66 RX2 yX2_no wsX2_no) := goodIn_app (goodIn_of _ (by decide +kernel)) ggX2_headingsOn_X2_no
theorem dX2_headingsOn_0 : decode cX2_headingsOn 0 = .ok (.aload_n 0, 1) := by decide +kernel
theorem dX2_headingsOn_1 : decode cX2_headingsOn 1 = .ok (.iconst 0, 1) := by decide +kernel
theorem dX2_headingsOn_2 : decode cX2_headingsOn 2 = .ok (.putfield 24, 3) := by decide +kernel
theorem dX2_headingsOn_5 : decode cX2_headingsOn 5 = .ok (.aload_n 0, 1) := by decide +kernel
theorem dX2_headingsOn_6 : decode cX2_headingsOn 6 = .ok (.iload_n 1, 1) := by decide +kernel
theorem dX2_headingsOn_7 : decode cX2_headingsOn 7 = .ok (.invokevirtual 92, 3) := by decide +kernel
theorem dX2_headingsOn_10 : decode cX2_headingsOn 10 = .ok (.ifCond .eq 11, 3) := by decide +kernel
theorem dX2_headingsOn_13 : decode cX2_headingsOn 13 = .ok (.aload_n 0, 1) := by decide +kernel
theorem dX2_headingsOn_14 : decode cX2_headingsOn 14 = .ok (.iload_n 1, 1) := by decide +kernel
theorem dX2_headingsOn_15 : decode cX2_headingsOn 15 = .ok (.invokevirtual 45, 3) := by decide +kernel
theorem dX2_headingsOn_18 : decode cX2_headingsOn 18 = .ok (.goto 8, 3) := by decide +kernel
theorem dX2_headingsOn_21 : decode cX2_headingsOn 21 = .ok (.aload_n 0, 1) := by decide +kernel
theorem dX2_headingsOn_22 : decode cX2_headingsOn 22 = .ok (.iconst 1, 1) := by decide +kernel
theorem dX2_headingsOn_23 : decode cX2_headingsOn 23 = .ok (.invokevirtual 66, 3) := by decide +kernel
theorem dX2_headingsOn_26 : decode cX2_headingsOn 26 = .ok (.ireturn, 1) := by decide +kernel
set_option maxRecDepth 20000 in
theorem ggX2_barePages_X2_bare : GoodIn wsX2_barePages wsX2_bare := goodIn_r _ [5, 6, 7, 8, 9, 4, 10, 11, 12, 13, 14, 15, 16, 22, 23, 24, 25, 26, 27] (by decide +kernel) (by decide +kernel)
set_option maxRecDepth 20000 in
theorem gX2_barePages_X2_bare : GoodIn wsX2_barePages (wsV RX2 107 RX2 yX2_bare wsX2_bare) := goodIn_app (goodIn_of _ (by decide +kernel)) ggX2_barePages_X2_bare
set_option maxRecDepth 20000 in
theorem ggX2_barePages_X2_ok : GoodIn wsX2_barePages wsX2_ok := goodIn_r _ [20, 21, 22, 23, 24, 25, 26, 27] (by decide +kernel) (by decide +kernel)
set_option maxRecDepth 20000 in
theorem gX2_barePages_X2_ok : GoodIn wsX2_barePages (wsV RX2 95 RX2 yX2_ok wsX2_ok) := goodIn_app (goodIn_of _ (by decide +kernel)) ggX2_barePages_X2_ok
theorem dX2_barePages_0 : decode cX2_barePages 0 = .ok (.aload_n 0, 1) := by decide +kernel
theorem dX2_barePages_1 : decode cX2_barePages 1 = .ok (.aload_n 0, 1) := by decide +kernel
theorem dX2_barePages_2 : decode cX2_barePages 2 = .ok (.invokevirtual 107, 3) := by decide +kernel
theorem dX2_barePages_5 : decode cX2_barePages 5 = .ok (.invokevirtual 95, 3) := by decide +kernel
theorem dX2_barePages_8 : decode cX2_barePages 8 = .ok (.ireturn, 1) := by decide +kernel
set_option maxRecDepth 20000 in
theorem ggX2_fullestPage_X2_fullest : GoodIn wsX2_fullestPage wsX2_fullest := goodIn_r _ [5, 6, 7, 8, 9, 4, 10, 11, 12, 13, 14, 15, 16, 22, 23, 24, 25, 26, 27] (by decide +kernel) (by decide +kernel)
set_option maxRecDepth 20000 in
theorem gX2_fullestPage_X2_fullest : GoodIn wsX2_fullestPage (wsV RX2 111 RX2 yX2_fullest wsX2_fullest) := goodIn_app (goodIn_of _ (by decide +kernel)) ggX2_fullestPage_X2_fullest
set_option maxRecDepth 20000 in
theorem ggX2_fullestPage_X2_ok : GoodIn wsX2_fullestPage wsX2_ok := goodIn_r _ [20, 21, 22, 23, 24, 25, 26, 27] (by decide +kernel) (by decide +kernel)
set_option maxRecDepth 20000 in
theorem gX2_fullestPage_X2_ok : GoodIn wsX2_fullestPage (wsV RX2 95 RX2 yX2_ok wsX2_ok) := goodIn_app (goodIn_of _ (by decide +kernel)) ggX2_fullestPage_X2_ok
theorem dX2_fullestPage_0 : decode cX2_fullestPage 0 = .ok (.aload_n 0, 1) := by decide +kernel
theorem dX2_fullestPage_1 : decode cX2_fullestPage 1 = .ok (.aload_n 0, 1) := by decide +kernel
theorem dX2_fullestPage_2 : decode cX2_fullestPage 2 = .ok (.invokevirtual 111, 3) := by decide +kernel
theorem dX2_fullestPage_5 : decode cX2_fullestPage 5 = .ok (.invokevirtual 95, 3) := by decide +kernel
theorem dX2_fullestPage_8 : decode cX2_fullestPage 8 = .ok (.ireturn, 1) := by decide +kernel
set_option maxRecDepth 20000 in
theorem ggX2_leadsTo_X2_isHeading : GoodIn wsX2_leadsTo wsX2_isHeading := goodIn_r _ [6, 7, 8, 9, 5, 10, 20, 21, 22, 23, 24, 25] (by decide +kernel) (by decide +kernel)
set_option maxRecDepth 20000 in
theorem gX2_leadsTo_X2_isHeading : GoodIn wsX2_leadsTo (wsV RX2 73 RX2 yX2_isHeading wsX2_isHeading) := goodIn_app (goodIn_of _ (by decide +kernel)) ggX2_leadsTo_X2_isHeading
set_option maxRecDepth 20000 in
theorem ggX2_leadsTo_X2_end : GoodIn wsX2_leadsTo wsX2_end := goodIn_r _ [14, 7, 15, 20, 21, 22, 23, 24, 25] (by decide +kernel) (by decide +kernel)
set_option maxRecDepth 20000 in
theorem gX2_leadsTo_X2_end : GoodIn wsX2_leadsTo (wsV RX2 49 RX2 yX2_end wsX2_end) := goodIn_app (goodIn_of _ (by decide +kernel)) ggX2_leadsTo_X2_end
set_option maxRecDepth 20000 in
theorem ggX2_leadsTo_X2_no : GoodIn wsX2_leadsTo wsX2_no := goodIn_r _ [19, 1, 20, 21, 22, 23, 24, 25] (by decide +kernel) (by decide +kernel)
set_option maxRecDepth 20000 in
theorem gX2_leadsTo_X2_no : GoodIn wsX2_leadsTo (wsV RX2 66 RX2 yX2_no wsX2_no) := goodIn_app (goodIn_of _ (by decide +kernel)) ggX2_leadsTo_X2_no
theorem dX2_leadsTo_0 : decode cX2_leadsTo 0 = .ok (.aload_n 0, 1) := by decide +kernel
theorem dX2_leadsTo_1 : decode cX2_leadsTo 1 = .ok (.iconst 0, 1) := by decide +kernel
theorem dX2_leadsTo_2 : decode cX2_leadsTo 2 = .ok (.putfield 24, 3) := by decide +kernel
theorem dX2_leadsTo_5 : decode cX2_leadsTo 5 = .ok (.aload_n 0, 1) := by decide +kernel
theorem dX2_leadsTo_6 : decode cX2_leadsTo 6 = .ok (.iload_n 1, 1) := by decide +kernel
theorem dX2_leadsTo_7 : decode cX2_leadsTo 7 = .ok (.invokevirtual 73, 3) := by decide +kernel
theorem dX2_leadsTo_10 : decode cX2_leadsTo 10 = .ok (.ifCond .eq 11, 3) := by decide +kernel
theorem dX2_leadsTo_13 : decode cX2_leadsTo 13 = .ok (.aload_n 0, 1) := by decide +kernel
theorem dX2_leadsTo_14 : decode cX2_leadsTo 14 = .ok (.iload_n 1, 1) := by decide +kernel
theorem dX2_leadsTo_15 : decode cX2_leadsTo 15 = .ok (.invokevirtual 49, 3) := by decide +kernel
theorem dX2_leadsTo_18 : decode cX2_leadsTo 18 = .ok (.goto 8, 3) := by decide +kernel
theorem dX2_leadsTo_21 : decode cX2_leadsTo 21 = .ok (.aload_n 0, 1) := by decide +kernel
theorem dX2_leadsTo_22 : decode cX2_leadsTo 22 = .ok (.iconst 1, 1) := by decide +kernel
theorem dX2_leadsTo_23 : decode cX2_leadsTo 23 = .ok (.invokevirtual 66, 3) := by decide +kernel
theorem dX2_leadsTo_26 : decode cX2_leadsTo 26 = .ok (.ireturn, 1) := by decide +kernel
set_option maxRecDepth 20000 in
theorem ggX2_vainSees_X2_vain : GoodIn wsX2_vainSees wsX2_vain := goodIn_r _ [5, 6, 7, 8, 9, 10, 4, 11, 12, 13, 14, 15, 16, 17, 18, 19, 20, 21, 27, 28, 29, 30, 31, 32] (by decide +kernel) (by decide +kernel)
set_option maxRecDepth 20000 in
theorem gX2_vainSees_X2_vain : GoodIn wsX2_vainSees (wsV RX2 114 RX2 yX2_vain wsX2_vain) := goodIn_app (goodIn_of _ (by decide +kernel)) ggX2_vainSees_X2_vain
set_option maxRecDepth 20000 in
theorem ggX2_vainSees_X2_ok : GoodIn wsX2_vainSees wsX2_ok := goodIn_r _ [25, 26, 27, 28, 29, 30, 31, 32] (by decide +kernel) (by decide +kernel)
set_option maxRecDepth 20000 in
theorem gX2_vainSees_X2_ok : GoodIn wsX2_vainSees (wsV RX2 95 RX2 yX2_ok wsX2_ok) := goodIn_app (goodIn_of _ (by decide +kernel)) ggX2_vainSees_X2_ok
theorem dX2_vainSees_0 : decode cX2_vainSees 0 = .ok (.aload_n 0, 1) := by decide +kernel
theorem dX2_vainSees_1 : decode cX2_vainSees 1 = .ok (.aload_n 0, 1) := by decide +kernel
theorem dX2_vainSees_2 : decode cX2_vainSees 2 = .ok (.invokevirtual 114, 3) := by decide +kernel
theorem dX2_vainSees_5 : decode cX2_vainSees 5 = .ok (.invokevirtual 95, 3) := by decide +kernel
theorem dX2_vainSees_8 : decode cX2_vainSees 8 = .ok (.ireturn, 1) := by decide +kernel
set_option maxRecDepth 20000 in
theorem ggX2_steps_X2_isHeading : GoodIn wsX2_steps wsX2_isHeading := goodIn_r _ [6, 7, 8, 9, 5, 10, 25, 26, 27, 28, 29, 30] (by decide +kernel) (by decide +kernel)
set_option maxRecDepth 20000 in
theorem gX2_steps_X2_isHeading : GoodIn wsX2_steps (wsV RX2 73 RX2 yX2_isHeading wsX2_isHeading) := goodIn_app (goodIn_of _ (by decide +kernel)) ggX2_steps_X2_isHeading
set_option maxRecDepth 20000 in
theorem ggX2_steps_X2_far : GoodIn wsX2_steps wsX2_far := goodIn_r _ [14, 15, 16, 17, 5, 18, 7, 19, 20, 25, 26, 27, 28, 29, 30] (by decide +kernel) (by decide +kernel)
set_option maxRecDepth 20000 in
theorem gX2_steps_X2_far : GoodIn wsX2_steps (wsV RX2 117 RX2 yX2_far wsX2_far) := goodIn_app (goodIn_of _ (by decide +kernel)) ggX2_steps_X2_far
set_option maxRecDepth 20000 in
theorem ggX2_steps_X2_no : GoodIn wsX2_steps wsX2_no := goodIn_r _ [24, 1, 25, 26, 27, 28, 29, 30] (by decide +kernel) (by decide +kernel)
set_option maxRecDepth 20000 in
theorem gX2_steps_X2_no : GoodIn wsX2_steps (wsV RX2 66 RX2 yX2_no wsX2_no) := goodIn_app (goodIn_of _ (by decide +kernel)) ggX2_steps_X2_no
theorem dX2_steps_0 : decode cX2_steps 0 = .ok (.aload_n 0, 1) := by decide +kernel
theorem dX2_steps_1 : decode cX2_steps 1 = .ok (.iconst 0, 1) := by decide +kernel
theorem dX2_steps_2 : decode cX2_steps 2 = .ok (.putfield 24, 3) := by decide +kernel
theorem dX2_steps_5 : decode cX2_steps 5 = .ok (.aload_n 0, 1) := by decide +kernel
theorem dX2_steps_6 : decode cX2_steps 6 = .ok (.iload_n 1, 1) := by decide +kernel
theorem dX2_steps_7 : decode cX2_steps 7 = .ok (.invokevirtual 73, 3) := by decide +kernel
theorem dX2_steps_10 : decode cX2_steps 10 = .ok (.ifCond .eq 20, 3) := by decide +kernel
theorem dX2_steps_13 : decode cX2_steps 13 = .ok (.aload_n 0, 1) := by decide +kernel
theorem dX2_steps_14 : decode cX2_steps 14 = .ok (.iload_n 2, 1) := by decide +kernel
theorem dX2_steps_15 : decode cX2_steps 15 = .ok (.invokevirtual 73, 3) := by decide +kernel
theorem dX2_steps_18 : decode cX2_steps 18 = .ok (.ifCond .eq 12, 3) := by decide +kernel
theorem dX2_steps_21 : decode cX2_steps 21 = .ok (.aload_n 0, 1) := by decide +kernel
theorem dX2_steps_22 : decode cX2_steps 22 = .ok (.iload_n 1, 1) := by decide +kernel
theorem dX2_steps_23 : decode cX2_steps 23 = .ok (.iload_n 2, 1) := by decide +kernel
theorem dX2_steps_24 : decode cX2_steps 24 = .ok (.invokevirtual 117, 3) := by decide +kernel
theorem dX2_steps_27 : decode cX2_steps 27 = .ok (.goto 8, 3) := by decide +kernel
theorem dX2_steps_30 : decode cX2_steps 30 = .ok (.aload_n 0, 1) := by decide +kernel
theorem dX2_steps_31 : decode cX2_steps 31 = .ok (.iconst 1, 1) := by decide +kernel
theorem dX2_steps_32 : decode cX2_steps 32 = .ok (.invokevirtual 66, 3) := by decide +kernel
theorem dX2_steps_35 : decode cX2_steps 35 = .ok (.ireturn, 1) := by decide +kernel
set_option maxRecDepth 20000 in
theorem ggX2_reachOf_X2_isHeading : GoodIn wsX2_reachOf wsX2_isHeading := goodIn_r _ [6, 7, 8, 9, 5, 10, 32, 33, 34, 35, 36, 37] (by decide +kernel) (by decide +kernel)
set_option maxRecDepth 20000 in
theorem gX2_reachOf_X2_isHeading : GoodIn wsX2_reachOf (wsV RX2 73 RX2 yX2_isHeading wsX2_isHeading) := goodIn_app (goodIn_of _ (by decide +kernel)) ggX2_reachOf_X2_isHeading
set_option maxRecDepth 20000 in
theorem ggX2_reachOf_X2_all : GoodIn wsX2_reachOf wsX2_all := goodIn_r _ [14, 15, 16, 17, 5, 18, 7, 19, 20, 32, 33, 34, 35, 36, 37] (by decide +kernel) (by decide +kernel)
set_option maxRecDepth 20000 in
theorem gX2_reachOf_X2_all : GoodIn wsX2_reachOf (wsV RX2 58 RX2 yX2_all wsX2_all) := goodIn_app (goodIn_of _ (by decide +kernel)) ggX2_reachOf_X2_all
set_option maxRecDepth 20000 in
theorem ggX2_reachOf_J6_bitCount_0f7a4 : GoodIn wsX2_reachOf wsJ6_bitCount_0f7a4 := goodIn_r _ [24, 25, 26, 27] (by decide +kernel) (by decide +kernel)
set_option maxRecDepth 20000 in
theorem gX2_reachOf_J6_bitCount_0f7a4 : GoodIn wsX2_reachOf (va_wsS RX2 61 yJ6_bitCount_0f7a4 wsJ6_bitCount_0f7a4) := goodIn_app (goodIn_of _ (by decide +kernel)) ggX2_reachOf_J6_bitCount_0f7a4
set_option maxRecDepth 20000 in
theorem ggX2_reachOf_X2_no : GoodIn wsX2_reachOf wsX2_no := goodIn_r _ [31, 1, 32, 33, 34, 35, 36, 37] (by decide +kernel) (by decide +kernel)
set_option maxRecDepth 20000 in
theorem gX2_reachOf_X2_no : GoodIn wsX2_reachOf (wsV RX2 66 RX2 yX2_no wsX2_no) := goodIn_app (goodIn_of _ (by decide +kernel)) ggX2_reachOf_X2_no
theorem dX2_reachOf_0 : decode cX2_reachOf 0 = .ok (.aload_n 0, 1) := by decide +kernel
theorem dX2_reachOf_1 : decode cX2_reachOf 1 = .ok (.iconst 0, 1) := by decide +kernel
theorem dX2_reachOf_2 : decode cX2_reachOf 2 = .ok (.putfield 24, 3) := by decide +kernel
theorem dX2_reachOf_5 : decode cX2_reachOf 5 = .ok (.aload_n 0, 1) := by decide +kernel
theorem dX2_reachOf_6 : decode cX2_reachOf 6 = .ok (.iload_n 1, 1) := by decide +kernel
theorem dX2_reachOf_7 : decode cX2_reachOf 7 = .ok (.invokevirtual 73, 3) := by decide +kernel
theorem dX2_reachOf_10 : decode cX2_reachOf 10 = .ok (.ifCond .eq 16, 3) := by decide +kernel
theorem dX2_reachOf_13 : decode cX2_reachOf 13 = .ok (.aload_n 0, 1) := by decide +kernel
theorem dX2_reachOf_14 : decode cX2_reachOf 14 = .ok (.iconst 1, 1) := by decide +kernel
theorem dX2_reachOf_15 : decode cX2_reachOf 15 = .ok (.iload_n 1, 1) := by decide +kernel
theorem dX2_reachOf_16 : decode cX2_reachOf 16 = .ok (.ishl, 1) := by decide +kernel
theorem dX2_reachOf_17 : decode cX2_reachOf 17 = .ok (.invokevirtual 58, 3) := by decide +kernel
theorem dX2_reachOf_20 : decode cX2_reachOf 20 = .ok (.invokestatic 61, 3) := by decide +kernel
theorem dX2_reachOf_23 : decode cX2_reachOf 23 = .ok (.goto 8, 3) := by decide +kernel
theorem dX2_reachOf_26 : decode cX2_reachOf 26 = .ok (.aload_n 0, 1) := by decide +kernel
theorem dX2_reachOf_27 : decode cX2_reachOf 27 = .ok (.iconst 1, 1) := by decide +kernel
theorem dX2_reachOf_28 : decode cX2_reachOf 28 = .ok (.invokevirtual 66, 3) := by decide +kernel
theorem dX2_reachOf_31 : decode cX2_reachOf 31 = .ok (.ireturn, 1) := by decide +kernel
set_option maxRecDepth 20000 in
theorem ggX2_isInRing_X2_isHeading : GoodIn wsX2_isInRing wsX2_isHeading := goodIn_r _ [6, 7, 8, 9, 5, 10, 29, 30, 31, 32, 33, 34] (by decide +kernel) (by decide +kernel)
set_option maxRecDepth 20000 in
theorem gX2_isInRing_X2_isHeading : GoodIn wsX2_isInRing (wsV RX2 73 RX2 yX2_isHeading wsX2_isHeading) := goodIn_app (goodIn_of _ (by decide +kernel)) ggX2_isInRing_X2_isHeading
set_option maxRecDepth 20000 in
theorem ggX2_isInRing_X2_rings : GoodIn wsX2_isInRing wsX2_rings := goodIn_r _ [14, 15, 16, 17, 5, 18, 7, 19, 20, 21, 22, 23, 24, 29, 30, 31, 32, 33, 34] (by decide +kernel) (by decide +kernel)
set_option maxRecDepth 20000 in
theorem gX2_isInRing_X2_rings : GoodIn wsX2_isInRing (wsV RX2 120 RX2 yX2_rings wsX2_rings) := goodIn_app (goodIn_of _ (by decide +kernel)) ggX2_isInRing_X2_rings
set_option maxRecDepth 20000 in
theorem ggX2_isInRing_X2_isNot : GoodIn wsX2_isInRing wsX2_isNot := goodIn_r _ [28, 1, 29, 30, 31, 32, 33, 34] (by decide +kernel) (by decide +kernel)
set_option maxRecDepth 20000 in
theorem gX2_isInRing_X2_isNot : GoodIn wsX2_isInRing (wsV RX2 104 RX2 yX2_isNot wsX2_isNot) := goodIn_app (goodIn_of _ (by decide +kernel)) ggX2_isInRing_X2_isNot
theorem dX2_isInRing_0 : decode cX2_isInRing 0 = .ok (.aload_n 0, 1) := by decide +kernel
theorem dX2_isInRing_1 : decode cX2_isInRing 1 = .ok (.iconst 0, 1) := by decide +kernel
theorem dX2_isInRing_2 : decode cX2_isInRing 2 = .ok (.putfield 24, 3) := by decide +kernel
theorem dX2_isInRing_5 : decode cX2_isInRing 5 = .ok (.aload_n 0, 1) := by decide +kernel
theorem dX2_isInRing_6 : decode cX2_isInRing 6 = .ok (.iload_n 1, 1) := by decide +kernel
theorem dX2_isInRing_7 : decode cX2_isInRing 7 = .ok (.invokevirtual 73, 3) := by decide +kernel
theorem dX2_isInRing_10 : decode cX2_isInRing 10 = .ok (.ifCond .eq 11, 3) := by decide +kernel
theorem dX2_isInRing_13 : decode cX2_isInRing 13 = .ok (.aload_n 0, 1) := by decide +kernel
theorem dX2_isInRing_14 : decode cX2_isInRing 14 = .ok (.iload_n 1, 1) := by decide +kernel
theorem dX2_isInRing_15 : decode cX2_isInRing 15 = .ok (.invokevirtual 120, 3) := by decide +kernel
theorem dX2_isInRing_18 : decode cX2_isInRing 18 = .ok (.goto 8, 3) := by decide +kernel
theorem dX2_isInRing_21 : decode cX2_isInRing 21 = .ok (.aload_n 0, 1) := by decide +kernel
theorem dX2_isInRing_22 : decode cX2_isInRing 22 = .ok (.iconst 1, 1) := by decide +kernel
theorem dX2_isInRing_23 : decode cX2_isInRing 23 = .ok (.invokevirtual 104, 3) := by decide +kernel
theorem dX2_isInRing_26 : decode cX2_isInRing 26 = .ok (.ireturn, 1) := by decide +kernel
set_option maxRecDepth 20000 in
theorem ggX2_unled_X2_alone : GoodIn wsX2_unled wsX2_alone := goodIn_r _ [5, 6, 7, 8, 9, 4, 10, 11, 12, 13, 14, 15, 16, 17, 18, 19, 25, 26, 27, 28, 29, 30] (by decide +kernel) (by decide +kernel)
set_option maxRecDepth 20000 in
theorem gX2_unled_X2_alone : GoodIn wsX2_unled (wsV RX2 123 RX2 yX2_alone wsX2_alone) := goodIn_app (goodIn_of _ (by decide +kernel)) ggX2_unled_X2_alone
set_option maxRecDepth 20000 in
theorem ggX2_unled_X2_ok : GoodIn wsX2_unled wsX2_ok := goodIn_r _ [23, 24, 25, 26, 27, 28, 29, 30] (by decide +kernel) (by decide +kernel)
set_option maxRecDepth 20000 in
theorem gX2_unled_X2_ok : GoodIn wsX2_unled (wsV RX2 95 RX2 yX2_ok wsX2_ok) := goodIn_app (goodIn_of _ (by decide +kernel)) ggX2_unled_X2_ok
theorem dX2_unled_0 : decode cX2_unled 0 = .ok (.aload_n 0, 1) := by decide +kernel
theorem dX2_unled_1 : decode cX2_unled 1 = .ok (.aload_n 0, 1) := by decide +kernel
theorem dX2_unled_2 : decode cX2_unled 2 = .ok (.invokevirtual 123, 3) := by decide +kernel
theorem dX2_unled_5 : decode cX2_unled 5 = .ok (.invokevirtual 95, 3) := by decide +kernel
theorem dX2_unled_8 : decode cX2_unled 8 = .ok (.ireturn, 1) := by decide +kernel
set_option maxRecDepth 20000 in
theorem ggX2_spansWithGap_X2_isHeading : GoodIn wsX2_spansWithGap wsX2_isHeading := goodIn_r _ [6, 7, 8, 9, 5, 10, 25, 26, 27, 28, 29, 30] (by decide +kernel) (by decide +kernel)
set_option maxRecDepth 20000 in
theorem gX2_spansWithGap_X2_isHeading : GoodIn wsX2_spansWithGap (wsV RX2 73 RX2 yX2_isHeading wsX2_isHeading) := goodIn_app (goodIn_of _ (by decide +kernel)) ggX2_spansWithGap_X2_isHeading
set_option maxRecDepth 20000 in
theorem ggX2_spansWithGap_X2_no : GoodIn wsX2_spansWithGap wsX2_no := goodIn_r _ [14, 1, 25, 26, 27, 28, 29, 30] (by decide +kernel) (by decide +kernel)
set_option maxRecDepth 20000 in
theorem gX2_spansWithGap_X2_no : GoodIn wsX2_spansWithGap (wsV RX2 66 RX2 yX2_no wsX2_no) := goodIn_app (goodIn_of _ (by decide +kernel)) ggX2_spansWithGap_X2_no
set_option maxRecDepth 20000 in
theorem ggX2_spansWithGap_X2_isIn : GoodIn wsX2_spansWithGap wsX2_isIn := goodIn_r _ [10] (by decide +kernel) (by decide +kernel)
set_option maxRecDepth 20000 in
theorem gX2_spansWithGap_X2_isIn : GoodIn wsX2_spansWithGap (va_wsS RX2 30 yX2_isIn wsX2_isIn) := goodIn_app (goodIn_of _ (by decide +kernel)) ggX2_spansWithGap_X2_isIn
set_option maxRecDepth 20000 in
theorem ggX2_spansWithGap_X2_spans : GoodIn wsX2_spansWithGap wsX2_spans := goodIn_r _ [18, 19, 20, 21, 22, 5, 23, 24, 25, 26, 27, 28, 29, 30] (by decide +kernel) (by decide +kernel)
set_option maxRecDepth 20000 in
theorem gX2_spansWithGap_X2_spans : GoodIn wsX2_spansWithGap (wsV RX2 88 RX2 yX2_spans wsX2_spans) := goodIn_app (goodIn_of _ (by decide +kernel)) ggX2_spansWithGap_X2_spans
theorem dX2_spansWithGap_0 : decode cX2_spansWithGap 0 = .ok (.aload_n 0, 1) := by decide +kernel
theorem dX2_spansWithGap_1 : decode cX2_spansWithGap 1 = .ok (.iconst 0, 1) := by decide +kernel
theorem dX2_spansWithGap_2 : decode cX2_spansWithGap 2 = .ok (.putfield 24, 3) := by decide +kernel
theorem dX2_spansWithGap_5 : decode cX2_spansWithGap 5 = .ok (.aload_n 0, 1) := by decide +kernel
theorem dX2_spansWithGap_6 : decode cX2_spansWithGap 6 = .ok (.iload_n 1, 1) := by decide +kernel
theorem dX2_spansWithGap_7 : decode cX2_spansWithGap 7 = .ok (.invokevirtual 73, 3) := by decide +kernel
theorem dX2_spansWithGap_10 : decode cX2_spansWithGap 10 = .ok (.ifCond .ne 9, 3) := by decide +kernel
theorem dX2_spansWithGap_13 : decode cX2_spansWithGap 13 = .ok (.aload_n 0, 1) := by decide +kernel
theorem dX2_spansWithGap_14 : decode cX2_spansWithGap 14 = .ok (.iconst 1, 1) := by decide +kernel
theorem dX2_spansWithGap_15 : decode cX2_spansWithGap 15 = .ok (.invokevirtual 66, 3) := by decide +kernel
theorem dX2_spansWithGap_18 : decode cX2_spansWithGap 18 = .ok (.ireturn, 1) := by decide +kernel
theorem dX2_spansWithGap_19 : decode cX2_spansWithGap 19 = .ok (.iload_n 2, 1) := by decide +kernel
theorem dX2_spansWithGap_20 : decode cX2_spansWithGap 20 = .ok (.iconst 0, 1) := by decide +kernel
theorem dX2_spansWithGap_21 : decode cX2_spansWithGap 21 = .ok (.bipush 100, 2) := by decide +kernel
theorem dX2_spansWithGap_23 : decode cX2_spansWithGap 23 = .ok (.invokestatic 30, 3) := by decide +kernel
theorem dX2_spansWithGap_26 : decode cX2_spansWithGap 26 = .ok (.ifCond .eq 13, 3) := by decide +kernel
theorem dX2_spansWithGap_29 : decode cX2_spansWithGap 29 = .ok (.aload_n 0, 1) := by decide +kernel
theorem dX2_spansWithGap_30 : decode cX2_spansWithGap 30 = .ok (.iload_n 1, 1) := by decide +kernel
theorem dX2_spansWithGap_31 : decode cX2_spansWithGap 31 = .ok (.iload_n 1, 1) := by decide +kernel
theorem dX2_spansWithGap_32 : decode cX2_spansWithGap 32 = .ok (.iload_n 2, 1) := by decide +kernel
theorem dX2_spansWithGap_33 : decode cX2_spansWithGap 33 = .ok (.invokevirtual 88, 3) := by decide +kernel
theorem dX2_spansWithGap_36 : decode cX2_spansWithGap 36 = .ok (.goto 8, 3) := by decide +kernel
theorem dX2_spansWithGap_39 : decode cX2_spansWithGap 39 = .ok (.aload_n 0, 1) := by decide +kernel
theorem dX2_spansWithGap_40 : decode cX2_spansWithGap 40 = .ok (.iconst 2, 1) := by decide +kernel
theorem dX2_spansWithGap_41 : decode cX2_spansWithGap 41 = .ok (.invokevirtual 66, 3) := by decide +kernel
theorem dX2_spansWithGap_44 : decode cX2_spansWithGap 44 = .ok (.ireturn, 1) := by decide +kernel
set_option maxRecDepth 20000 in
theorem ggX2_commonPages_X2_isHeading : GoodIn wsX2_commonPages wsX2_isHeading := goodIn_r _ [6, 7, 8, 9, 5, 10, 25, 26, 27, 28, 29, 30] (by decide +kernel) (by decide +kernel)
set_option maxRecDepth 20000 in
theorem gX2_commonPages_X2_isHeading : GoodIn wsX2_commonPages (wsV RX2 73 RX2 yX2_isHeading wsX2_isHeading) := goodIn_app (goodIn_of _ (by decide +kernel)) ggX2_commonPages_X2_isHeading
set_option maxRecDepth 20000 in
theorem ggX2_commonPages_X2_common : GoodIn wsX2_commonPages wsX2_common := goodIn_r _ [14, 15, 16, 17, 18, 5, 19, 20, 25, 26, 27, 28, 29, 30] (by decide +kernel) (by decide +kernel)
set_option maxRecDepth 20000 in
theorem gX2_commonPages_X2_common : GoodIn wsX2_commonPages (wsV RX2 42 RX2 yX2_common wsX2_common) := goodIn_app (goodIn_of _ (by decide +kernel)) ggX2_commonPages_X2_common
set_option maxRecDepth 20000 in
theorem ggX2_commonPages_X2_no : GoodIn wsX2_commonPages wsX2_no := goodIn_r _ [24, 1, 25, 26, 27, 28, 29, 30] (by decide +kernel) (by decide +kernel)
set_option maxRecDepth 20000 in
theorem gX2_commonPages_X2_no : GoodIn wsX2_commonPages (wsV RX2 66 RX2 yX2_no wsX2_no) := goodIn_app (goodIn_of _ (by decide +kernel)) ggX2_commonPages_X2_no
theorem dX2_commonPages_0 : decode cX2_commonPages 0 = .ok (.aload_n 0, 1) := by decide +kernel
theorem dX2_commonPages_1 : decode cX2_commonPages 1 = .ok (.iconst 0, 1) := by decide +kernel
theorem dX2_commonPages_2 : decode cX2_commonPages 2 = .ok (.putfield 24, 3) := by decide +kernel
theorem dX2_commonPages_5 : decode cX2_commonPages 5 = .ok (.aload_n 0, 1) := by decide +kernel
theorem dX2_commonPages_6 : decode cX2_commonPages 6 = .ok (.iload_n 1, 1) := by decide +kernel
theorem dX2_commonPages_7 : decode cX2_commonPages 7 = .ok (.invokevirtual 73, 3) := by decide +kernel
theorem dX2_commonPages_10 : decode cX2_commonPages 10 = .ok (.ifCond .eq 20, 3) := by decide +kernel
theorem dX2_commonPages_13 : decode cX2_commonPages 13 = .ok (.aload_n 0, 1) := by decide +kernel
theorem dX2_commonPages_14 : decode cX2_commonPages 14 = .ok (.iload_n 2, 1) := by decide +kernel
theorem dX2_commonPages_15 : decode cX2_commonPages 15 = .ok (.invokevirtual 73, 3) := by decide +kernel
theorem dX2_commonPages_18 : decode cX2_commonPages 18 = .ok (.ifCond .eq 12, 3) := by decide +kernel
theorem dX2_commonPages_21 : decode cX2_commonPages 21 = .ok (.aload_n 0, 1) := by decide +kernel
theorem dX2_commonPages_22 : decode cX2_commonPages 22 = .ok (.iload_n 1, 1) := by decide +kernel
theorem dX2_commonPages_23 : decode cX2_commonPages 23 = .ok (.iload_n 2, 1) := by decide +kernel
theorem dX2_commonPages_24 : decode cX2_commonPages 24 = .ok (.invokevirtual 42, 3) := by decide +kernel
theorem dX2_commonPages_27 : decode cX2_commonPages 27 = .ok (.goto 8, 3) := by decide +kernel
theorem dX2_commonPages_30 : decode cX2_commonPages 30 = .ok (.aload_n 0, 1) := by decide +kernel
theorem dX2_commonPages_31 : decode cX2_commonPages 31 = .ok (.iconst 1, 1) := by decide +kernel
theorem dX2_commonPages_32 : decode cX2_commonPages 32 = .ok (.invokevirtual 66, 3) := by decide +kernel
theorem dX2_commonPages_35 : decode cX2_commonPages 35 = .ok (.ireturn, 1) := by decide +kernel
set_option maxRecDepth 20000 in
theorem ggX2_nearest_X2_isHeading : GoodIn wsX2_nearest wsX2_isHeading := goodIn_r _ [6, 7, 8, 9, 5, 10, 29, 30, 31, 32, 33, 34] (by decide +kernel) (by decide +kernel)
set_option maxRecDepth 20000 in
theorem gX2_nearest_X2_isHeading : GoodIn wsX2_nearest (wsV RX2 73 RX2 yX2_isHeading wsX2_isHeading) := goodIn_app (goodIn_of _ (by decide +kernel)) ggX2_nearest_X2_isHeading
set_option maxRecDepth 20000 in
theorem ggX2_nearest_X2_near : GoodIn wsX2_nearest wsX2_near := goodIn_r _ [14, 7, 15, 16, 17, 5, 18, 19, 20, 21, 22, 23, 24, 29, 30, 31, 32, 33, 34] (by decide +kernel) (by decide +kernel)
set_option maxRecDepth 20000 in
theorem gX2_nearest_X2_near : GoodIn wsX2_nearest (wsV RX2 126 RX2 yX2_near wsX2_near) := goodIn_app (goodIn_of _ (by decide +kernel)) ggX2_nearest_X2_near
set_option maxRecDepth 20000 in
theorem ggX2_nearest_X2_no : GoodIn wsX2_nearest wsX2_no := goodIn_r _ [28, 1, 29, 30, 31, 32, 33, 34] (by decide +kernel) (by decide +kernel)
set_option maxRecDepth 20000 in
theorem gX2_nearest_X2_no : GoodIn wsX2_nearest (wsV RX2 66 RX2 yX2_no wsX2_no) := goodIn_app (goodIn_of _ (by decide +kernel)) ggX2_nearest_X2_no
theorem dX2_nearest_0 : decode cX2_nearest 0 = .ok (.aload_n 0, 1) := by decide +kernel
theorem dX2_nearest_1 : decode cX2_nearest 1 = .ok (.iconst 0, 1) := by decide +kernel
theorem dX2_nearest_2 : decode cX2_nearest 2 = .ok (.putfield 24, 3) := by decide +kernel
theorem dX2_nearest_5 : decode cX2_nearest 5 = .ok (.aload_n 0, 1) := by decide +kernel
theorem dX2_nearest_6 : decode cX2_nearest 6 = .ok (.iload_n 1, 1) := by decide +kernel
theorem dX2_nearest_7 : decode cX2_nearest 7 = .ok (.invokevirtual 73, 3) := by decide +kernel
theorem dX2_nearest_10 : decode cX2_nearest 10 = .ok (.ifCond .eq 11, 3) := by decide +kernel
theorem dX2_nearest_13 : decode cX2_nearest 13 = .ok (.aload_n 0, 1) := by decide +kernel
theorem dX2_nearest_14 : decode cX2_nearest 14 = .ok (.iload_n 1, 1) := by decide +kernel
theorem dX2_nearest_15 : decode cX2_nearest 15 = .ok (.invokevirtual 126, 3) := by decide +kernel
theorem dX2_nearest_18 : decode cX2_nearest 18 = .ok (.goto 8, 3) := by decide +kernel
theorem dX2_nearest_21 : decode cX2_nearest 21 = .ok (.aload_n 0, 1) := by decide +kernel
theorem dX2_nearest_22 : decode cX2_nearest 22 = .ok (.iconst 1, 1) := by decide +kernel
theorem dX2_nearest_23 : decode cX2_nearest 23 = .ok (.invokevirtual 66, 3) := by decide +kernel
theorem dX2_nearest_26 : decode cX2_nearest 26 = .ok (.ireturn, 1) := by decide +kernel
set_option maxRecDepth 20000 in
theorem ggX2_spansTogether_X2_isHeading : GoodIn wsX2_spansTogether wsX2_isHeading := goodIn_r _ [6, 7, 8, 9, 5, 10, 25, 26, 27, 28, 29, 30] (by decide +kernel) (by decide +kernel)
set_option maxRecDepth 20000 in
theorem gX2_spansTogether_X2_isHeading : GoodIn wsX2_spansTogether (wsV RX2 73 RX2 yX2_isHeading wsX2_isHeading) := goodIn_app (goodIn_of _ (by decide +kernel)) ggX2_spansTogether_X2_isHeading
set_option maxRecDepth 20000 in
theorem ggX2_spansTogether_X2_spans : GoodIn wsX2_spansTogether wsX2_spans := goodIn_r _ [14, 15, 16, 17, 18, 5, 19, 20, 25, 26, 27, 28, 29, 30] (by decide +kernel) (by decide +kernel)
set_option maxRecDepth 20000 in
theorem gX2_spansTogether_X2_spans : GoodIn wsX2_spansTogether (wsV RX2 88 RX2 yX2_spans wsX2_spans) := goodIn_app (goodIn_of _ (by decide +kernel)) ggX2_spansTogether_X2_spans
set_option maxRecDepth 20000 in
theorem ggX2_spansTogether_X2_no : GoodIn wsX2_spansTogether wsX2_no := goodIn_r _ [24, 1, 25, 26, 27, 28, 29, 30] (by decide +kernel) (by decide +kernel)
set_option maxRecDepth 20000 in
theorem gX2_spansTogether_X2_no : GoodIn wsX2_spansTogether (wsV RX2 66 RX2 yX2_no wsX2_no) := goodIn_app (goodIn_of _ (by decide +kernel)) ggX2_spansTogether_X2_no
theorem dX2_spansTogether_0 : decode cX2_spansTogether 0 = .ok (.aload_n 0, 1) := by decide +kernel
theorem dX2_spansTogether_1 : decode cX2_spansTogether 1 = .ok (.iconst 0, 1) := by decide +kernel
theorem dX2_spansTogether_2 : decode cX2_spansTogether 2 = .ok (.putfield 24, 3) := by decide +kernel
theorem dX2_spansTogether_5 : decode cX2_spansTogether 5 = .ok (.aload_n 0, 1) := by decide +kernel
theorem dX2_spansTogether_6 : decode cX2_spansTogether 6 = .ok (.iload_n 1, 1) := by decide +kernel
theorem dX2_spansTogether_7 : decode cX2_spansTogether 7 = .ok (.invokevirtual 73, 3) := by decide +kernel
theorem dX2_spansTogether_10 : decode cX2_spansTogether 10 = .ok (.ifCond .eq 21, 3) := by decide +kernel
theorem dX2_spansTogether_13 : decode cX2_spansTogether 13 = .ok (.aload_n 0, 1) := by decide +kernel
theorem dX2_spansTogether_14 : decode cX2_spansTogether 14 = .ok (.iload_n 2, 1) := by decide +kernel
theorem dX2_spansTogether_15 : decode cX2_spansTogether 15 = .ok (.invokevirtual 73, 3) := by decide +kernel
theorem dX2_spansTogether_18 : decode cX2_spansTogether 18 = .ok (.ifCond .eq 13, 3) := by decide +kernel
theorem dX2_spansTogether_21 : decode cX2_spansTogether 21 = .ok (.aload_n 0, 1) := by decide +kernel
theorem dX2_spansTogether_22 : decode cX2_spansTogether 22 = .ok (.iload_n 1, 1) := by decide +kernel
theorem dX2_spansTogether_23 : decode cX2_spansTogether 23 = .ok (.iload_n 2, 1) := by decide +kernel
theorem dX2_spansTogether_24 : decode cX2_spansTogether 24 = .ok (.iconst 0, 1) := by decide +kernel
theorem dX2_spansTogether_25 : decode cX2_spansTogether 25 = .ok (.invokevirtual 88, 3) := by decide +kernel
theorem dX2_spansTogether_28 : decode cX2_spansTogether 28 = .ok (.goto 8, 3) := by decide +kernel
theorem dX2_spansTogether_31 : decode cX2_spansTogether 31 = .ok (.aload_n 0, 1) := by decide +kernel
theorem dX2_spansTogether_32 : decode cX2_spansTogether 32 = .ok (.iconst 1, 1) := by decide +kernel
theorem dX2_spansTogether_33 : decode cX2_spansTogether 33 = .ok (.invokevirtual 66, 3) := by decide +kernel
theorem dX2_spansTogether_36 : decode cX2_spansTogether 36 = .ok (.ireturn, 1) := by decide +kernel
set_option maxRecDepth 20000 in
theorem ggX2_meanPages_X2_many : GoodIn wsX2_meanPages wsX2_many := goodIn_r _ [7, 8, 9, 10, 11, 6, 12, 13, 14, 15, 16, 17, 18, 19] (by decide +kernel) (by decide +kernel)
set_option maxRecDepth 20000 in
theorem gX2_meanPages_X2_many : GoodIn wsX2_meanPages (wsV RX2 52 RX2 yX2_many wsX2_many) := goodIn_app (goodIn_of _ (by decide +kernel)) ggX2_meanPages_X2_many
theorem dX2_meanPages_0 : decode cX2_meanPages 0 = .ok (.aload_n 0, 1) := by decide +kernel
theorem dX2_meanPages_1 : decode cX2_meanPages 1 = .ok (.iconst 0, 1) := by decide +kernel
theorem dX2_meanPages_2 : decode cX2_meanPages 2 = .ok (.putfield 24, 3) := by decide +kernel
theorem dX2_meanPages_5 : decode cX2_meanPages 5 = .ok (.iconst 0, 1) := by decide +kernel
theorem dX2_meanPages_6 : decode cX2_meanPages 6 = .ok (.istore_n 1, 1) := by decide +kernel
theorem dX2_meanPages_7 : decode cX2_meanPages 7 = .ok (.iconst 0, 1) := by decide +kernel
theorem dX2_meanPages_8 : decode cX2_meanPages 8 = .ok (.istore_n 2, 1) := by decide +kernel
theorem dX2_meanPages_9 : decode cX2_meanPages 9 = .ok (.iconst 0, 1) := by decide +kernel
theorem dX2_meanPages_10 : decode cX2_meanPages 10 = .ok (.istore_n 3, 1) := by decide +kernel
theorem dX2_meanPages_11 : decode cX2_meanPages 11 = .ok (.iload_n 3, 1) := by decide +kernel
theorem dX2_meanPages_12 : decode cX2_meanPages 12 = .ok (.aload_n 0, 1) := by decide +kernel
theorem dX2_meanPages_13 : decode cX2_meanPages 13 = .ok (.getfield 27, 3) := by decide +kernel
theorem dX2_meanPages_16 : decode cX2_meanPages 16 = .ok (.if_icmp .ge 33, 3) := by decide +kernel
theorem dX2_meanPages_19 : decode cX2_meanPages 19 = .ok (.iload_n 1, 1) := by decide +kernel
theorem dX2_meanPages_20 : decode cX2_meanPages 20 = .ok (.aload_n 0, 1) := by decide +kernel
theorem dX2_meanPages_21 : decode cX2_meanPages 21 = .ok (.iload_n 3, 1) := by decide +kernel
theorem dX2_meanPages_22 : decode cX2_meanPages 22 = .ok (.invokevirtual 52, 3) := by decide +kernel
theorem dX2_meanPages_25 : decode cX2_meanPages 25 = .ok (.iadd, 1) := by decide +kernel
theorem dX2_meanPages_26 : decode cX2_meanPages 26 = .ok (.istore_n 1, 1) := by decide +kernel
theorem dX2_meanPages_27 : decode cX2_meanPages 27 = .ok (.iload_n 2, 1) := by decide +kernel
theorem dX2_meanPages_28 : decode cX2_meanPages 28 = .ok (.aload_n 0, 1) := by decide +kernel
theorem dX2_meanPages_29 : decode cX2_meanPages 29 = .ok (.iload_n 3, 1) := by decide +kernel
theorem dX2_meanPages_30 : decode cX2_meanPages 30 = .ok (.invokevirtual 52, 3) := by decide +kernel
theorem dX2_meanPages_33 : decode cX2_meanPages 33 = .ok (.ifCond .le 7, 3) := by decide +kernel
theorem dX2_meanPages_36 : decode cX2_meanPages 36 = .ok (.iconst 1, 1) := by decide +kernel
theorem dX2_meanPages_37 : decode cX2_meanPages 37 = .ok (.goto 4, 3) := by decide +kernel
theorem dX2_meanPages_40 : decode cX2_meanPages 40 = .ok (.iconst 0, 1) := by decide +kernel
theorem dX2_meanPages_41 : decode cX2_meanPages 41 = .ok (.iadd, 1) := by decide +kernel
theorem dX2_meanPages_42 : decode cX2_meanPages 42 = .ok (.istore_n 2, 1) := by decide +kernel
theorem dX2_meanPages_43 : decode cX2_meanPages 43 = .ok (.iinc 3 1, 3) := by decide +kernel
theorem dX2_meanPages_46 : decode cX2_meanPages 46 = .ok (.goto (-35), 3) := by decide +kernel
theorem dX2_meanPages_49 : decode cX2_meanPages 49 = .ok (.iload_n 2, 1) := by decide +kernel
theorem dX2_meanPages_50 : decode cX2_meanPages 50 = .ok (.ifCond .ne 7, 3) := by decide +kernel
theorem dX2_meanPages_53 : decode cX2_meanPages 53 = .ok (.dconst 0, 1) := by decide +kernel
theorem dX2_meanPages_54 : decode cX2_meanPages 54 = .ok (.goto 8, 3) := by decide +kernel
theorem dX2_meanPages_57 : decode cX2_meanPages 57 = .ok (.iload_n 1, 1) := by decide +kernel
theorem dX2_meanPages_58 : decode cX2_meanPages 58 = .ok (.i2d, 1) := by decide +kernel
theorem dX2_meanPages_59 : decode cX2_meanPages 59 = .ok (.iload_n 2, 1) := by decide +kernel
theorem dX2_meanPages_60 : decode cX2_meanPages 60 = .ok (.i2d, 1) := by decide +kernel
theorem dX2_meanPages_61 : decode cX2_meanPages 61 = .ok (.ddiv, 1) := by decide +kernel
theorem dX2_meanPages_62 : decode cX2_meanPages 62 = .ok (.dreturn, 1) := by decide +kernel
set_option maxRecDepth 20000 in
theorem ggX2_digest_X2_bare : GoodIn wsX2_digest wsX2_bare := goodIn_r _ [13, 3, 14, 15, 16, 12, 17, 4, 18, 19, 20, 21, 22, 82, 83, 84, 85, 86, 87] (by decide +kernel) (by decide +kernel)
set_option maxRecDepth 20000 in
theorem gX2_digest_X2_bare : GoodIn wsX2_digest (wsV RX2 107 RX2 yX2_bare wsX2_bare) := goodIn_app (goodIn_of _ (by decide +kernel)) ggX2_digest_X2_bare
set_option maxRecDepth 20000 in
theorem ggX2_digest_X2_fullest : GoodIn wsX2_digest wsX2_fullest := goodIn_r _ [26, 3, 14, 15, 16, 12, 17, 4, 18, 19, 20, 21, 22, 82, 83, 84, 85, 86, 87] (by decide +kernel) (by decide +kernel)
set_option maxRecDepth 20000 in
theorem gX2_digest_X2_fullest : GoodIn wsX2_digest (wsV RX2 111 RX2 yX2_fullest wsX2_fullest) := goodIn_app (goodIn_of _ (by decide +kernel)) ggX2_digest_X2_fullest
set_option maxRecDepth 20000 in
theorem ggX2_digest_X2_vain : GoodIn wsX2_digest wsX2_vain := goodIn_r _ [30, 4, 7, 31, 32, 33, 12, 34, 35, 36, 37, 38, 3, 18, 19, 20, 21, 22, 82, 83, 84, 85, 86, 87] (by decide +kernel) (by decide +kernel)
set_option maxRecDepth 20000 in
theorem gX2_digest_X2_vain : GoodIn wsX2_digest (wsV RX2 114 RX2 yX2_vain wsX2_vain) := goodIn_app (goodIn_of _ (by decide +kernel)) ggX2_digest_X2_vain
set_option maxRecDepth 20000 in
theorem ggX2_digest_X2_alone : GoodIn wsX2_digest wsX2_alone := goodIn_r _ [42, 4, 43, 44, 45, 12, 46, 8, 7, 47, 48, 49, 50, 51, 52, 53, 82, 83, 84, 85, 86, 87] (by decide +kernel) (by decide +kernel)
set_option maxRecDepth 20000 in
theorem gX2_digest_X2_alone : GoodIn wsX2_digest (wsV RX2 123 RX2 yX2_alone wsX2_alone) := goodIn_app (goodIn_of _ (by decide +kernel)) ggX2_digest_X2_alone
set_option maxRecDepth 20000 in
theorem ggX2_digest_X2_spans : GoodIn wsX2_digest wsX2_spans := goodIn_r _ [57, 3, 18, 19, 20, 12, 21, 22, 82, 83, 84, 85, 86, 87] (by decide +kernel) (by decide +kernel)
set_option maxRecDepth 20000 in
theorem gX2_digest_X2_spans : GoodIn wsX2_digest (wsV RX2 88 RX2 yX2_spans wsX2_spans) := goodIn_app (goodIn_of _ (by decide +kernel)) ggX2_digest_X2_spans
set_option maxRecDepth 20000 in
theorem ggX2_digest_X2_many : GoodIn wsX2_digest wsX2_many := goodIn_r _ [38, 3, 18, 19, 20, 12, 21, 22, 82, 83, 84, 85, 86, 87] (by decide +kernel) (by decide +kernel)
set_option maxRecDepth 20000 in
theorem gX2_digest_X2_many : GoodIn wsX2_digest (wsV RX2 52 RX2 yX2_many wsX2_many) := goodIn_app (goodIn_of _ (by decide +kernel)) ggX2_digest_X2_many
set_option maxRecDepth 20000 in
theorem ggX2_digest_J6_bitCount_0f7a4 : GoodIn wsX2_digest wsJ6_bitCount_0f7a4 := goodIn_r _ [50, 51, 52, 53] (by decide +kernel) (by decide +kernel)
set_option maxRecDepth 20000 in
theorem gX2_digest_J6_bitCount_0f7a4 : GoodIn wsX2_digest (va_wsS RX2 61 yJ6_bitCount_0f7a4 wsJ6_bitCount_0f7a4) := goodIn_app (goodIn_of _ (by decide +kernel)) ggX2_digest_J6_bitCount_0f7a4
set_option maxRecDepth 20000 in
theorem ggX2_digest_X2_end : GoodIn wsX2_digest wsX2_end := goodIn_r _ [34, 4, 7, 82, 83, 84, 85, 86, 87] (by decide +kernel) (by decide +kernel)
set_option maxRecDepth 20000 in
theorem gX2_digest_X2_end : GoodIn wsX2_digest (wsV RX2 49 RX2 yX2_end wsX2_end) := goodIn_app (goodIn_of _ (by decide +kernel)) ggX2_digest_X2_end
set_option maxRecDepth 20000 in
theorem ggX2_digest_X2_all : GoodIn wsX2_digest wsX2_all := goodIn_r _ [61, 43, 44, 45, 12, 46, 4, 8, 7, 82, 83, 84, 85, 86, 87] (by decide +kernel) (by decide +kernel)
set_option maxRecDepth 20000 in
theorem gX2_digest_X2_all : GoodIn wsX2_digest (wsV RX2 58 RX2 yX2_all wsX2_all) := goodIn_app (goodIn_of _ (by decide +kernel)) ggX2_digest_X2_all
set_option maxRecDepth 20000 in
theorem ggX2_digest_X2_rings : GoodIn wsX2_digest wsX2_rings := goodIn_r _ [65, 43, 44, 45, 12, 46, 4, 8, 7, 58, 59, 60, 61, 82, 83, 84, 85, 86, 87] (by decide +kernel) (by decide +kernel)
set_option maxRecDepth 20000 in
theorem gX2_digest_X2_rings : GoodIn wsX2_digest (wsV RX2 120 RX2 yX2_rings wsX2_rings) := goodIn_app (goodIn_of _ (by decide +kernel)) ggX2_digest_X2_rings
set_option maxRecDepth 20000 in
theorem ggX2_digest_X2_near : GoodIn wsX2_digest wsX2_near := goodIn_r _ [69, 4, 70, 71, 72, 12, 73, 3, 18, 19, 20, 21, 22, 82, 83, 84, 85, 86, 87] (by decide +kernel) (by decide +kernel)
set_option maxRecDepth 20000 in
theorem gX2_digest_X2_near : GoodIn wsX2_digest (wsV RX2 126 RX2 yX2_near wsX2_near) := goodIn_app (goodIn_of _ (by decide +kernel)) ggX2_digest_X2_near
set_option maxRecDepth 20000 in
theorem ggX2_digest_X2_begins : GoodIn wsX2_digest wsX2_begins := goodIn_r _ [77, 18, 19, 20, 12, 21, 22, 82, 83, 84, 85, 86, 87] (by decide +kernel) (by decide +kernel)
set_option maxRecDepth 20000 in
theorem gX2_digest_X2_begins : GoodIn wsX2_digest (wsV RX2 38 RX2 yX2_begins wsX2_begins) := goodIn_app (goodIn_of _ (by decide +kernel)) ggX2_digest_X2_begins
set_option maxRecDepth 20000 in
theorem ggX2_digest_X2_ends : GoodIn wsX2_digest wsX2_ends := goodIn_r _ [81, 74, 75, 76, 12, 77, 18, 19, 20, 21, 22, 82, 83, 84, 85, 86, 87] (by decide +kernel) (by decide +kernel)
set_option maxRecDepth 20000 in
theorem gX2_digest_X2_ends : GoodIn wsX2_digest (wsV RX2 101 RX2 yX2_ends wsX2_ends) := goodIn_app (goodIn_of _ (by decide +kernel)) ggX2_digest_X2_ends
theorem dX2_digest_0 : decode cX2_digest 0 = .ok (.aload_n 0, 1) := by decide +kernel
theorem dX2_digest_1 : decode cX2_digest 1 = .ok (.iconst 0, 1) := by decide +kernel
theorem dX2_digest_2 : decode cX2_digest 2 = .ok (.putfield 24, 3) := by decide +kernel
theorem dX2_digest_5 : decode cX2_digest 5 = .ok (.bipush 6, 2) := by decide +kernel
theorem dX2_digest_7 : decode cX2_digest 7 = .ok (.newarray .int, 2) := by decide +kernel
theorem dX2_digest_9 : decode cX2_digest 9 = .ok (.dup, 1) := by decide +kernel
theorem dX2_digest_10 : decode cX2_digest 10 = .ok (.iconst 0, 1) := by decide +kernel
theorem dX2_digest_11 : decode cX2_digest 11 = .ok (.aload_n 0, 1) := by decide +kernel
theorem dX2_digest_12 : decode cX2_digest 12 = .ok (.getfield 9, 3) := by decide +kernel
theorem dX2_digest_15 : decode cX2_digest 15 = .ok (.iastore, 1) := by decide +kernel
theorem dX2_digest_16 : decode cX2_digest 16 = .ok (.dup, 1) := by decide +kernel
theorem dX2_digest_17 : decode cX2_digest 17 = .ok (.iconst 1, 1) := by decide +kernel
theorem dX2_digest_18 : decode cX2_digest 18 = .ok (.aload_n 0, 1) := by decide +kernel
theorem dX2_digest_19 : decode cX2_digest 19 = .ok (.getfield 27, 3) := by decide +kernel
theorem dX2_digest_22 : decode cX2_digest 22 = .ok (.iastore, 1) := by decide +kernel
theorem dX2_digest_23 : decode cX2_digest 23 = .ok (.dup, 1) := by decide +kernel
theorem dX2_digest_24 : decode cX2_digest 24 = .ok (.iconst 2, 1) := by decide +kernel
theorem dX2_digest_25 : decode cX2_digest 25 = .ok (.aload_n 0, 1) := by decide +kernel
theorem dX2_digest_26 : decode cX2_digest 26 = .ok (.invokevirtual 107, 3) := by decide +kernel
theorem dX2_digest_29 : decode cX2_digest 29 = .ok (.iastore, 1) := by decide +kernel
theorem dX2_digest_30 : decode cX2_digest 30 = .ok (.dup, 1) := by decide +kernel
theorem dX2_digest_31 : decode cX2_digest 31 = .ok (.iconst 3, 1) := by decide +kernel
theorem dX2_digest_32 : decode cX2_digest 32 = .ok (.aload_n 0, 1) := by decide +kernel
theorem dX2_digest_33 : decode cX2_digest 33 = .ok (.invokevirtual 111, 3) := by decide +kernel
theorem dX2_digest_36 : decode cX2_digest 36 = .ok (.iastore, 1) := by decide +kernel
theorem dX2_digest_37 : decode cX2_digest 37 = .ok (.dup, 1) := by decide +kernel
theorem dX2_digest_38 : decode cX2_digest 38 = .ok (.iconst 4, 1) := by decide +kernel
theorem dX2_digest_39 : decode cX2_digest 39 = .ok (.aload_n 0, 1) := by decide +kernel
theorem dX2_digest_40 : decode cX2_digest 40 = .ok (.invokevirtual 114, 3) := by decide +kernel
theorem dX2_digest_43 : decode cX2_digest 43 = .ok (.iastore, 1) := by decide +kernel
theorem dX2_digest_44 : decode cX2_digest 44 = .ok (.dup, 1) := by decide +kernel
theorem dX2_digest_45 : decode cX2_digest 45 = .ok (.iconst 5, 1) := by decide +kernel
theorem dX2_digest_46 : decode cX2_digest 46 = .ok (.aload_n 0, 1) := by decide +kernel
theorem dX2_digest_47 : decode cX2_digest 47 = .ok (.invokevirtual 123, 3) := by decide +kernel
theorem dX2_digest_50 : decode cX2_digest 50 = .ok (.iastore, 1) := by decide +kernel
theorem dX2_digest_51 : decode cX2_digest 51 = .ok (.astore_n 1, 1) := by decide +kernel
theorem dX2_digest_52 : decode cX2_digest 52 = .ok (.ldc2_w 129, 3) := by decide +kernel
theorem dX2_digest_55 : decode cX2_digest 55 = .ok (.lstore_n 2, 1) := by decide +kernel
theorem dX2_digest_56 : decode cX2_digest 56 = .ok (.aload_n 1, 1) := by decide +kernel
theorem dX2_digest_57 : decode cX2_digest 57 = .ok (.astore 4, 2) := by decide +kernel
theorem dX2_digest_59 : decode cX2_digest 59 = .ok (.aload 4, 2) := by decide +kernel
theorem dX2_digest_61 : decode cX2_digest 61 = .ok (.arraylength, 1) := by decide +kernel
theorem dX2_digest_62 : decode cX2_digest 62 = .ok (.istore 5, 2) := by decide +kernel
theorem dX2_digest_64 : decode cX2_digest 64 = .ok (.iconst 0, 1) := by decide +kernel
theorem dX2_digest_65 : decode cX2_digest 65 = .ok (.istore 6, 2) := by decide +kernel
theorem dX2_digest_67 : decode cX2_digest 67 = .ok (.iload 6, 2) := by decide +kernel
theorem dX2_digest_69 : decode cX2_digest 69 = .ok (.iload 5, 2) := by decide +kernel
theorem dX2_digest_71 : decode cX2_digest 71 = .ok (.if_icmp .ge 26, 3) := by decide +kernel
theorem dX2_digest_74 : decode cX2_digest 74 = .ok (.aload 4, 2) := by decide +kernel
theorem dX2_digest_76 : decode cX2_digest 76 = .ok (.iload 6, 2) := by decide +kernel
theorem dX2_digest_78 : decode cX2_digest 78 = .ok (.iaload, 1) := by decide +kernel
theorem dX2_digest_79 : decode cX2_digest 79 = .ok (.istore 7, 2) := by decide +kernel
theorem dX2_digest_81 : decode cX2_digest 81 = .ok (.lload_n 2, 1) := by decide +kernel
theorem dX2_digest_82 : decode cX2_digest 82 = .ok (.ldc2_w 131, 3) := by decide +kernel
theorem dX2_digest_85 : decode cX2_digest 85 = .ok (.lmul, 1) := by decide +kernel
theorem dX2_digest_86 : decode cX2_digest 86 = .ok (.iload 7, 2) := by decide +kernel
theorem dX2_digest_88 : decode cX2_digest 88 = .ok (.i2l, 1) := by decide +kernel
theorem dX2_digest_89 : decode cX2_digest 89 = .ok (.ladd, 1) := by decide +kernel
theorem dX2_digest_90 : decode cX2_digest 90 = .ok (.lstore_n 2, 1) := by decide +kernel
theorem dX2_digest_91 : decode cX2_digest 91 = .ok (.iinc 6 1, 3) := by decide +kernel
theorem dX2_digest_94 : decode cX2_digest 94 = .ok (.goto (-27), 3) := by decide +kernel
theorem dX2_digest_97 : decode cX2_digest 97 = .ok (.iconst 0, 1) := by decide +kernel
theorem dX2_digest_98 : decode cX2_digest 98 = .ok (.istore 4, 2) := by decide +kernel
theorem dX2_digest_100 : decode cX2_digest 100 = .ok (.iload 4, 2) := by decide +kernel
theorem dX2_digest_102 : decode cX2_digest 102 = .ok (.aload_n 0, 1) := by decide +kernel
theorem dX2_digest_103 : decode cX2_digest 103 = .ok (.getfield 27, 3) := by decide +kernel
theorem dX2_digest_106 : decode cX2_digest 106 = .ok (.if_icmp .ge 202, 3) := by decide +kernel
theorem dX2_digest_109 : decode cX2_digest 109 = .ok (.aload_n 0, 1) := by decide +kernel
theorem dX2_digest_110 : decode cX2_digest 110 = .ok (.iload 4, 2) := by decide +kernel
theorem dX2_digest_112 : decode cX2_digest 112 = .ok (.iload 4, 2) := by decide +kernel
theorem dX2_digest_114 : decode cX2_digest 114 = .ok (.iconst 0, 1) := by decide +kernel
theorem dX2_digest_115 : decode cX2_digest 115 = .ok (.invokevirtual 88, 3) := by decide +kernel
theorem dX2_digest_118 : decode cX2_digest 118 = .ok (.istore 5, 2) := by decide +kernel
theorem dX2_digest_120 : decode cX2_digest 120 = .ok (.bipush 8, 2) := by decide +kernel
theorem dX2_digest_122 : decode cX2_digest 122 = .ok (.newarray .int, 2) := by decide +kernel
theorem dX2_digest_124 : decode cX2_digest 124 = .ok (.dup, 1) := by decide +kernel
theorem dX2_digest_125 : decode cX2_digest 125 = .ok (.iconst 0, 1) := by decide +kernel
theorem dX2_digest_126 : decode cX2_digest 126 = .ok (.iload 5, 2) := by decide +kernel
theorem dX2_digest_128 : decode cX2_digest 128 = .ok (.iastore, 1) := by decide +kernel
theorem dX2_digest_129 : decode cX2_digest 129 = .ok (.dup, 1) := by decide +kernel
theorem dX2_digest_130 : decode cX2_digest 130 = .ok (.iconst 1, 1) := by decide +kernel
theorem dX2_digest_131 : decode cX2_digest 131 = .ok (.aload_n 0, 1) := by decide +kernel
theorem dX2_digest_132 : decode cX2_digest 132 = .ok (.iload 4, 2) := by decide +kernel
theorem dX2_digest_134 : decode cX2_digest 134 = .ok (.invokevirtual 52, 3) := by decide +kernel
theorem dX2_digest_137 : decode cX2_digest 137 = .ok (.iastore, 1) := by decide +kernel
theorem dX2_digest_138 : decode cX2_digest 138 = .ok (.dup, 1) := by decide +kernel
theorem dX2_digest_139 : decode cX2_digest 139 = .ok (.iconst 2, 1) := by decide +kernel
theorem dX2_digest_140 : decode cX2_digest 140 = .ok (.aload_n 0, 1) := by decide +kernel
theorem dX2_digest_141 : decode cX2_digest 141 = .ok (.getfield 17, 3) := by decide +kernel
theorem dX2_digest_144 : decode cX2_digest 144 = .ok (.iload 4, 2) := by decide +kernel
theorem dX2_digest_146 : decode cX2_digest 146 = .ok (.iaload, 1) := by decide +kernel
theorem dX2_digest_147 : decode cX2_digest 147 = .ok (.iastore, 1) := by decide +kernel
theorem dX2_digest_148 : decode cX2_digest 148 = .ok (.dup, 1) := by decide +kernel
theorem dX2_digest_149 : decode cX2_digest 149 = .ok (.iconst 3, 1) := by decide +kernel
theorem dX2_digest_150 : decode cX2_digest 150 = .ok (.aload_n 0, 1) := by decide +kernel
theorem dX2_digest_151 : decode cX2_digest 151 = .ok (.getfield 21, 3) := by decide +kernel
theorem dX2_digest_154 : decode cX2_digest 154 = .ok (.iload 4, 2) := by decide +kernel
theorem dX2_digest_156 : decode cX2_digest 156 = .ok (.iaload, 1) := by decide +kernel
theorem dX2_digest_157 : decode cX2_digest 157 = .ok (.invokestatic 61, 3) := by decide +kernel
theorem dX2_digest_160 : decode cX2_digest 160 = .ok (.iastore, 1) := by decide +kernel
theorem dX2_digest_161 : decode cX2_digest 161 = .ok (.dup, 1) := by decide +kernel
theorem dX2_digest_162 : decode cX2_digest 162 = .ok (.iconst 4, 1) := by decide +kernel
theorem dX2_digest_163 : decode cX2_digest 163 = .ok (.aload_n 0, 1) := by decide +kernel
theorem dX2_digest_164 : decode cX2_digest 164 = .ok (.iload 4, 2) := by decide +kernel
theorem dX2_digest_166 : decode cX2_digest 166 = .ok (.invokevirtual 49, 3) := by decide +kernel
theorem dX2_digest_169 : decode cX2_digest 169 = .ok (.iastore, 1) := by decide +kernel
theorem dX2_digest_170 : decode cX2_digest 170 = .ok (.dup, 1) := by decide +kernel
theorem dX2_digest_171 : decode cX2_digest 171 = .ok (.iconst 5, 1) := by decide +kernel
theorem dX2_digest_172 : decode cX2_digest 172 = .ok (.aload_n 0, 1) := by decide +kernel
theorem dX2_digest_173 : decode cX2_digest 173 = .ok (.iconst 1, 1) := by decide +kernel
theorem dX2_digest_174 : decode cX2_digest 174 = .ok (.iload 4, 2) := by decide +kernel
theorem dX2_digest_176 : decode cX2_digest 176 = .ok (.ishl, 1) := by decide +kernel
theorem dX2_digest_177 : decode cX2_digest 177 = .ok (.invokevirtual 58, 3) := by decide +kernel
theorem dX2_digest_180 : decode cX2_digest 180 = .ok (.invokestatic 61, 3) := by decide +kernel
theorem dX2_digest_183 : decode cX2_digest 183 = .ok (.iastore, 1) := by decide +kernel
theorem dX2_digest_184 : decode cX2_digest 184 = .ok (.dup, 1) := by decide +kernel
theorem dX2_digest_185 : decode cX2_digest 185 = .ok (.bipush 6, 2) := by decide +kernel
theorem dX2_digest_187 : decode cX2_digest 187 = .ok (.aload_n 0, 1) := by decide +kernel
theorem dX2_digest_188 : decode cX2_digest 188 = .ok (.iload 4, 2) := by decide +kernel
theorem dX2_digest_190 : decode cX2_digest 190 = .ok (.invokevirtual 120, 3) := by decide +kernel
theorem dX2_digest_193 : decode cX2_digest 193 = .ok (.ifCond .eq 7, 3) := by decide +kernel
theorem dX2_digest_196 : decode cX2_digest 196 = .ok (.iconst 1, 1) := by decide +kernel
theorem dX2_digest_197 : decode cX2_digest 197 = .ok (.goto 4, 3) := by decide +kernel
theorem dX2_digest_200 : decode cX2_digest 200 = .ok (.iconst 0, 1) := by decide +kernel
theorem dX2_digest_201 : decode cX2_digest 201 = .ok (.iastore, 1) := by decide +kernel
theorem dX2_digest_202 : decode cX2_digest 202 = .ok (.dup, 1) := by decide +kernel
theorem dX2_digest_203 : decode cX2_digest 203 = .ok (.bipush 7, 2) := by decide +kernel
theorem dX2_digest_205 : decode cX2_digest 205 = .ok (.aload_n 0, 1) := by decide +kernel
theorem dX2_digest_206 : decode cX2_digest 206 = .ok (.iload 4, 2) := by decide +kernel
theorem dX2_digest_208 : decode cX2_digest 208 = .ok (.invokevirtual 126, 3) := by decide +kernel
theorem dX2_digest_211 : decode cX2_digest 211 = .ok (.iastore, 1) := by decide +kernel
theorem dX2_digest_212 : decode cX2_digest 212 = .ok (.astore 6, 2) := by decide +kernel
theorem dX2_digest_214 : decode cX2_digest 214 = .ok (.aload 6, 2) := by decide +kernel
theorem dX2_digest_216 : decode cX2_digest 216 = .ok (.astore 7, 2) := by decide +kernel
theorem dX2_digest_218 : decode cX2_digest 218 = .ok (.aload 7, 2) := by decide +kernel
theorem dX2_digest_220 : decode cX2_digest 220 = .ok (.arraylength, 1) := by decide +kernel
theorem dX2_digest_221 : decode cX2_digest 221 = .ok (.istore 8, 2) := by decide +kernel
theorem dX2_digest_223 : decode cX2_digest 223 = .ok (.iconst 0, 1) := by decide +kernel
theorem dX2_digest_224 : decode cX2_digest 224 = .ok (.istore 9, 2) := by decide +kernel
theorem dX2_digest_226 : decode cX2_digest 226 = .ok (.iload 9, 2) := by decide +kernel
theorem dX2_digest_228 : decode cX2_digest 228 = .ok (.iload 8, 2) := by decide +kernel
theorem dX2_digest_230 : decode cX2_digest 230 = .ok (.if_icmp .ge 26, 3) := by decide +kernel
theorem dX2_digest_233 : decode cX2_digest 233 = .ok (.aload 7, 2) := by decide +kernel
theorem dX2_digest_235 : decode cX2_digest 235 = .ok (.iload 9, 2) := by decide +kernel
theorem dX2_digest_237 : decode cX2_digest 237 = .ok (.iaload, 1) := by decide +kernel
theorem dX2_digest_238 : decode cX2_digest 238 = .ok (.istore 10, 2) := by decide +kernel
theorem dX2_digest_240 : decode cX2_digest 240 = .ok (.lload_n 2, 1) := by decide +kernel
theorem dX2_digest_241 : decode cX2_digest 241 = .ok (.ldc2_w 131, 3) := by decide +kernel
theorem dX2_digest_244 : decode cX2_digest 244 = .ok (.lmul, 1) := by decide +kernel
theorem dX2_digest_245 : decode cX2_digest 245 = .ok (.iload 10, 2) := by decide +kernel
theorem dX2_digest_247 : decode cX2_digest 247 = .ok (.i2l, 1) := by decide +kernel
theorem dX2_digest_248 : decode cX2_digest 248 = .ok (.ladd, 1) := by decide +kernel
theorem dX2_digest_249 : decode cX2_digest 249 = .ok (.lstore_n 2, 1) := by decide +kernel
theorem dX2_digest_250 : decode cX2_digest 250 = .ok (.iinc 9 1, 3) := by decide +kernel
theorem dX2_digest_253 : decode cX2_digest 253 = .ok (.goto (-27), 3) := by decide +kernel
theorem dX2_digest_256 : decode cX2_digest 256 = .ok (.iconst 0, 1) := by decide +kernel
theorem dX2_digest_257 : decode cX2_digest 257 = .ok (.istore 7, 2) := by decide +kernel
theorem dX2_digest_259 : decode cX2_digest 259 = .ok (.iload 7, 2) := by decide +kernel
theorem dX2_digest_261 : decode cX2_digest 261 = .ok (.iload 5, 2) := by decide +kernel
theorem dX2_digest_263 : decode cX2_digest 263 = .ok (.if_icmp .ge 39, 3) := by decide +kernel
theorem dX2_digest_266 : decode cX2_digest 266 = .ok (.lload_n 2, 1) := by decide +kernel
theorem dX2_digest_267 : decode cX2_digest 267 = .ok (.ldc2_w 131, 3) := by decide +kernel
theorem dX2_digest_270 : decode cX2_digest 270 = .ok (.lmul, 1) := by decide +kernel
theorem dX2_digest_271 : decode cX2_digest 271 = .ok (.aload_n 0, 1) := by decide +kernel
theorem dX2_digest_272 : decode cX2_digest 272 = .ok (.iload 4, 2) := by decide +kernel
theorem dX2_digest_274 : decode cX2_digest 274 = .ok (.iload 7, 2) := by decide +kernel
theorem dX2_digest_276 : decode cX2_digest 276 = .ok (.invokevirtual 38, 3) := by decide +kernel
theorem dX2_digest_279 : decode cX2_digest 279 = .ok (.i2l, 1) := by decide +kernel
theorem dX2_digest_280 : decode cX2_digest 280 = .ok (.ladd, 1) := by decide +kernel
theorem dX2_digest_281 : decode cX2_digest 281 = .ok (.ldc2_w 131, 3) := by decide +kernel
theorem dX2_digest_284 : decode cX2_digest 284 = .ok (.lmul, 1) := by decide +kernel
theorem dX2_digest_285 : decode cX2_digest 285 = .ok (.aload_n 0, 1) := by decide +kernel
theorem dX2_digest_286 : decode cX2_digest 286 = .ok (.iload 4, 2) := by decide +kernel
theorem dX2_digest_288 : decode cX2_digest 288 = .ok (.iload 7, 2) := by decide +kernel
theorem dX2_digest_290 : decode cX2_digest 290 = .ok (.invokevirtual 101, 3) := by decide +kernel
theorem dX2_digest_293 : decode cX2_digest 293 = .ok (.i2l, 1) := by decide +kernel
theorem dX2_digest_294 : decode cX2_digest 294 = .ok (.ladd, 1) := by decide +kernel
theorem dX2_digest_295 : decode cX2_digest 295 = .ok (.lstore_n 2, 1) := by decide +kernel
theorem dX2_digest_296 : decode cX2_digest 296 = .ok (.iinc 7 1, 3) := by decide +kernel
theorem dX2_digest_299 : decode cX2_digest 299 = .ok (.goto (-40), 3) := by decide +kernel
theorem dX2_digest_302 : decode cX2_digest 302 = .ok (.iinc 4 1, 3) := by decide +kernel
theorem dX2_digest_305 : decode cX2_digest 305 = .ok (.goto (-205), 3) := by decide +kernel
theorem dX2_digest_308 : decode cX2_digest 308 = .ok (.lload_n 2, 1) := by decide +kernel
theorem dX2_digest_309 : decode cX2_digest 309 = .ok (.lreturn, 1) := by decide +kernel
