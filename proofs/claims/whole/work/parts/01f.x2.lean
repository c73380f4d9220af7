theorem dX2_init_0 : decode cX2_init 0 = .ok (.aload_n 0, 1) := by decide +kernel
theorem dX2_init_1 : decode cX2_init 1 = .ok (.invokespecial 3, 3) := by decide +kernel
theorem dX2_init_4 : decode cX2_init 4 = .ok (.aload_n 0, 1) := by decide +kernel
theorem dX2_init_5 : decode cX2_init 5 = .ok (.bipush 100, 2) := by decide +kernel
theorem dX2_init_7 : decode cX2_init 7 = .ok (.putfield 9, 3) := by decide +kernel
theorem dX2_init_10 : decode cX2_init 10 = .ok (.aload_n 0, 1) := by decide +kernel
theorem dX2_init_11 : decode cX2_init 11 = .ok (.sipush 7248, 3) := by decide +kernel
theorem dX2_init_14 : decode cX2_init 14 = .ok (.newarray .boolean, 2) := by decide +kernel
theorem dX2_init_16 : decode cX2_init 16 = .ok (.putfield 13, 3) := by decide +kernel
theorem dX2_init_19 : decode cX2_init 19 = .ok (.aload_n 0, 1) := by decide +kernel
theorem dX2_init_20 : decode cX2_init 20 = .ok (.bipush 24, 2) := by decide +kernel
theorem dX2_init_22 : decode cX2_init 22 = .ok (.newarray .int, 2) := by decide +kernel
theorem dX2_init_24 : decode cX2_init 24 = .ok (.putfield 17, 3) := by decide +kernel
theorem dX2_init_27 : decode cX2_init 27 = .ok (.aload_n 0, 1) := by decide +kernel
theorem dX2_init_28 : decode cX2_init 28 = .ok (.bipush 24, 2) := by decide +kernel
theorem dX2_init_30 : decode cX2_init 30 = .ok (.newarray .int, 2) := by decide +kernel
theorem dX2_init_32 : decode cX2_init 32 = .ok (.putfield 21, 3) := by decide +kernel
theorem dX2_init_35 : decode cX2_init 35 = .ok (.return_, 1) := by decide +kernel
theorem dX2_thrown_0 : decode cX2_thrown 0 = .ok (.aload_n 0, 1) := by decide +kernel
theorem dX2_thrown_1 : decode cX2_thrown 1 = .ok (.getfield 24, 3) := by decide +kernel
theorem dX2_thrown_4 : decode cX2_thrown 4 = .ok (.ireturn, 1) := by decide +kernel
theorem dX2_no_0 : decode cX2_no 0 = .ok (.aload_n 0, 1) := by decide +kernel
theorem dX2_no_1 : decode cX2_no 1 = .ok (.iload_n 1, 1) := by decide +kernel
theorem dX2_no_2 : decode cX2_no 2 = .ok (.putfield 24, 3) := by decide +kernel
theorem dX2_no_5 : decode cX2_no 5 = .ok (.iconst 0, 1) := by decide +kernel
theorem dX2_no_6 : decode cX2_no 6 = .ok (.ireturn, 1) := by decide +kernel
theorem dX2_isNot_0 : decode cX2_isNot 0 = .ok (.aload_n 0, 1) := by decide +kernel
theorem dX2_isNot_1 : decode cX2_isNot 1 = .ok (.iload_n 1, 1) := by decide +kernel
theorem dX2_isNot_2 : decode cX2_isNot 2 = .ok (.putfield 24, 3) := by decide +kernel
theorem dX2_isNot_5 : decode cX2_isNot 5 = .ok (.iconst 0, 1) := by decide +kernel
theorem dX2_isNot_6 : decode cX2_isNot 6 = .ok (.ireturn, 1) := by decide +kernel
theorem dX2_ok_0 : decode cX2_ok 0 = .ok (.aload_n 0, 1) := by decide +kernel
theorem dX2_ok_1 : decode cX2_ok 1 = .ok (.iconst 0, 1) := by decide +kernel
theorem dX2_ok_2 : decode cX2_ok 2 = .ok (.putfield 24, 3) := by decide +kernel
theorem dX2_ok_5 : decode cX2_ok 5 = .ok (.iload_n 1, 1) := by decide +kernel
theorem dX2_ok_6 : decode cX2_ok 6 = .ok (.ireturn, 1) := by decide +kernel
theorem dX2_isIn_0 : decode cX2_isIn 0 = .ok (.iload_n 0, 1) := by decide +kernel
theorem dX2_isIn_1 : decode cX2_isIn 1 = .ok (.iload_n 1, 1) := by decide +kernel
theorem dX2_isIn_2 : decode cX2_isIn 2 = .ok (.if_icmp .lt 12, 3) := by decide +kernel
theorem dX2_isIn_5 : decode cX2_isIn 5 = .ok (.iload_n 0, 1) := by decide +kernel
theorem dX2_isIn_6 : decode cX2_isIn 6 = .ok (.iload_n 2, 1) := by decide +kernel
theorem dX2_isIn_7 : decode cX2_isIn 7 = .ok (.if_icmp .gt 7, 3) := by decide +kernel
theorem dX2_isIn_10 : decode cX2_isIn 10 = .ok (.iconst 1, 1) := by decide +kernel
theorem dX2_isIn_11 : decode cX2_isIn 11 = .ok (.goto 4, 3) := by decide +kernel
theorem dX2_isIn_14 : decode cX2_isIn 14 = .ok (.iconst 0, 1) := by decide +kernel
theorem dX2_isIn_15 : decode cX2_isIn 15 = .ok (.ireturn, 1) := by decide +kernel
set_option maxRecDepth 20000 in
theorem ggX2_isHeading_X2_isIn : GoodIn wsX2_isHeading wsX2_isIn := goodIn_r _ [5] (by decide +kernel) (by decide +kernel)
set_option maxRecDepth 20000 in
theorem gX2_isHeading_X2_isIn : GoodIn wsX2_isHeading (va_wsS RX2 30 yX2_isIn wsX2_isIn) := goodIn_app (goodIn_of _ (by decide +kernel)) ggX2_isHeading_X2_isIn
theorem dX2_isHeading_0 : decode cX2_isHeading 0 = .ok (.iload_n 1, 1) := by decide +kernel
theorem dX2_isHeading_1 : decode cX2_isHeading 1 = .ok (.iconst 0, 1) := by decide +kernel
theorem dX2_isHeading_2 : decode cX2_isHeading 2 = .ok (.aload_n 0, 1) := by decide +kernel
theorem dX2_isHeading_3 : decode cX2_isHeading 3 = .ok (.getfield 27, 3) := by decide +kernel
theorem dX2_isHeading_6 : decode cX2_isHeading 6 = .ok (.iconst 1, 1) := by decide +kernel
theorem dX2_isHeading_7 : decode cX2_isHeading 7 = .ok (.isub, 1) := by decide +kernel
theorem dX2_isHeading_8 : decode cX2_isHeading 8 = .ok (.invokestatic 30, 3) := by decide +kernel
theorem dX2_isHeading_11 : decode cX2_isHeading 11 = .ok (.ireturn, 1) := by decide +kernel
set_option maxRecDepth 20000 in
theorem ggX2_isPage_X2_isIn : GoodIn wsX2_isPage wsX2_isIn := goodIn_r _ [5] (by decide +kernel) (by decide +kernel)
set_option maxRecDepth 20000 in
theorem gX2_isPage_X2_isIn : GoodIn wsX2_isPage (va_wsS RX2 30 yX2_isIn wsX2_isIn) := goodIn_app (goodIn_of _ (by decide +kernel)) ggX2_isPage_X2_isIn
theorem dX2_isPage_0 : decode cX2_isPage 0 = .ok (.iload_n 1, 1) := by decide +kernel
theorem dX2_isPage_1 : decode cX2_isPage 1 = .ok (.iconst 1, 1) := by decide +kernel
theorem dX2_isPage_2 : decode cX2_isPage 2 = .ok (.aload_n 0, 1) := by decide +kernel
theorem dX2_isPage_3 : decode cX2_isPage 3 = .ok (.getfield 9, 3) := by decide +kernel
theorem dX2_isPage_6 : decode cX2_isPage 6 = .ok (.invokestatic 30, 3) := by decide +kernel
theorem dX2_isPage_9 : decode cX2_isPage 9 = .ok (.ireturn, 1) := by decide +kernel
theorem dX2_arePages_0 : decode cX2_arePages 0 = .ok (.iload_n 1, 1) := by decide +kernel
theorem dX2_arePages_1 : decode cX2_arePages 1 = .ok (.iconst 1, 1) := by decide +kernel
theorem dX2_arePages_2 : decode cX2_arePages 2 = .ok (.if_icmp .lt 20, 3) := by decide +kernel
theorem dX2_arePages_5 : decode cX2_arePages 5 = .ok (.iload_n 2, 1) := by decide +kernel
theorem dX2_arePages_6 : decode cX2_arePages 6 = .ok (.aload_n 0, 1) := by decide +kernel
theorem dX2_arePages_7 : decode cX2_arePages 7 = .ok (.getfield 9, 3) := by decide +kernel
theorem dX2_arePages_10 : decode cX2_arePages 10 = .ok (.if_icmp .gt 12, 3) := by decide +kernel
theorem dX2_arePages_13 : decode cX2_arePages 13 = .ok (.iload_n 2, 1) := by decide +kernel
theorem dX2_arePages_14 : decode cX2_arePages 14 = .ok (.iload_n 1, 1) := by decide +kernel
theorem dX2_arePages_15 : decode cX2_arePages 15 = .ok (.if_icmp .lt 7, 3) := by decide +kernel
theorem dX2_arePages_18 : decode cX2_arePages 18 = .ok (.iconst 1, 1) := by decide +kernel
theorem dX2_arePages_19 : decode cX2_arePages 19 = .ok (.goto 4, 3) := by decide +kernel
theorem dX2_arePages_22 : decode cX2_arePages 22 = .ok (.iconst 0, 1) := by decide +kernel
theorem dX2_arePages_23 : decode cX2_arePages 23 = .ok (.ireturn, 1) := by decide +kernel
theorem dX2_has_0 : decode cX2_has 0 = .ok (.aload_n 0, 1) := by decide +kernel
theorem dX2_has_1 : decode cX2_has 1 = .ok (.getfield 13, 3) := by decide +kernel
theorem dX2_has_4 : decode cX2_has 4 = .ok (.sipush 302, 3) := by decide +kernel
theorem dX2_has_7 : decode cX2_has 7 = .ok (.iload_n 1, 1) := by decide +kernel
theorem dX2_has_8 : decode cX2_has 8 = .ok (.imul, 1) := by decide +kernel
theorem dX2_has_9 : decode cX2_has 9 = .ok (.iload_n 2, 1) := by decide +kernel
theorem dX2_has_10 : decode cX2_has 10 = .ok (.iadd, 1) := by decide +kernel
theorem dX2_has_11 : decode cX2_has 11 = .ok (.baload, 1) := by decide +kernel
theorem dX2_has_12 : decode cX2_has 12 = .ok (.ireturn, 1) := by decide +kernel
theorem dX2_let_0 : decode cX2_let 0 = .ok (.aload_n 0, 1) := by decide +kernel
theorem dX2_let_1 : decode cX2_let 1 = .ok (.getfield 13, 3) := by decide +kernel
theorem dX2_let_4 : decode cX2_let 4 = .ok (.sipush 302, 3) := by decide +kernel
theorem dX2_let_7 : decode cX2_let 7 = .ok (.iload_n 1, 1) := by decide +kernel
theorem dX2_let_8 : decode cX2_let 8 = .ok (.imul, 1) := by decide +kernel
theorem dX2_let_9 : decode cX2_let 9 = .ok (.iload_n 2, 1) := by decide +kernel
theorem dX2_let_10 : decode cX2_let 10 = .ok (.iadd, 1) := by decide +kernel
theorem dX2_let_11 : decode cX2_let 11 = .ok (.iload_n 3, 1) := by decide +kernel
theorem dX2_let_12 : decode cX2_let 12 = .ok (.bastore, 1) := by decide +kernel
theorem dX2_let_13 : decode cX2_let 13 = .ok (.return_, 1) := by decide +kernel
set_option maxRecDepth 20000 in
theorem ggX2_spans_X2_has : GoodIn wsX2_spans wsX2_has := goodIn_r _ [6, 7, 8, 9, 10, 11, 12, 13] (by decide +kernel) (by decide +kernel)
set_option maxRecDepth 20000 in
theorem gX2_spans_X2_has : GoodIn wsX2_spans (wsV RX2 34 RX2 yX2_has wsX2_has) := goodIn_app (goodIn_of _ (by decide +kernel)) ggX2_spans_X2_has
theorem dX2_spans_0 : decode cX2_spans 0 = .ok (.iconst 0, 1) := by decide +kernel
theorem dX2_spans_1 : decode cX2_spans 1 = .ok (.istore 4, 2) := by decide +kernel
theorem dX2_spans_3 : decode cX2_spans 3 = .ok (.iconst (-1), 1) := by decide +kernel
theorem dX2_spans_4 : decode cX2_spans 4 = .ok (.istore 5, 2) := by decide +kernel
theorem dX2_spans_6 : decode cX2_spans 6 = .ok (.iconst 1, 1) := by decide +kernel
theorem dX2_spans_7 : decode cX2_spans 7 = .ok (.istore 6, 2) := by decide +kernel
theorem dX2_spans_9 : decode cX2_spans 9 = .ok (.iload 6, 2) := by decide +kernel
theorem dX2_spans_11 : decode cX2_spans 11 = .ok (.aload_n 0, 1) := by decide +kernel
theorem dX2_spans_12 : decode cX2_spans 12 = .ok (.getfield 9, 3) := by decide +kernel
theorem dX2_spans_15 : decode cX2_spans 15 = .ok (.if_icmp .gt 56, 3) := by decide +kernel
theorem dX2_spans_18 : decode cX2_spans 18 = .ok (.aload_n 0, 1) := by decide +kernel
theorem dX2_spans_19 : decode cX2_spans 19 = .ok (.iload_n 1, 1) := by decide +kernel
theorem dX2_spans_20 : decode cX2_spans 20 = .ok (.iload 6, 2) := by decide +kernel
theorem dX2_spans_22 : decode cX2_spans 22 = .ok (.invokevirtual 34, 3) := by decide +kernel
theorem dX2_spans_25 : decode cX2_spans 25 = .ok (.ifCond .ne 16, 3) := by decide +kernel
theorem dX2_spans_28 : decode cX2_spans 28 = .ok (.aload_n 0, 1) := by decide +kernel
theorem dX2_spans_29 : decode cX2_spans 29 = .ok (.iload_n 2, 1) := by decide +kernel
theorem dX2_spans_30 : decode cX2_spans 30 = .ok (.iload 6, 2) := by decide +kernel
theorem dX2_spans_32 : decode cX2_spans 32 = .ok (.invokevirtual 34, 3) := by decide +kernel
theorem dX2_spans_35 : decode cX2_spans 35 = .ok (.ifCond .ne 6, 3) := by decide +kernel
theorem dX2_spans_38 : decode cX2_spans 38 = .ok (.goto 27, 3) := by decide +kernel
theorem dX2_spans_41 : decode cX2_spans 41 = .ok (.iload 5, 2) := by decide +kernel
theorem dX2_spans_43 : decode cX2_spans 43 = .ok (.iconst (-1), 1) := by decide +kernel
theorem dX2_spans_44 : decode cX2_spans 44 = .ok (.if_icmp .eq 14, 3) := by decide +kernel
theorem dX2_spans_47 : decode cX2_spans 47 = .ok (.iload 6, 2) := by decide +kernel
theorem dX2_spans_49 : decode cX2_spans 49 = .ok (.iload 5, 2) := by decide +kernel
theorem dX2_spans_51 : decode cX2_spans 51 = .ok (.isub, 1) := by decide +kernel
theorem dX2_spans_52 : decode cX2_spans 52 = .ok (.iconst 1, 1) := by decide +kernel
theorem dX2_spans_53 : decode cX2_spans 53 = .ok (.isub, 1) := by decide +kernel
theorem dX2_spans_54 : decode cX2_spans 54 = .ok (.iload_n 3, 1) := by decide +kernel
theorem dX2_spans_55 : decode cX2_spans 55 = .ok (.if_icmp .le 6, 3) := by decide +kernel
theorem dX2_spans_58 : decode cX2_spans 58 = .ok (.iinc 4 1, 3) := by decide +kernel
theorem dX2_spans_61 : decode cX2_spans 61 = .ok (.iload 6, 2) := by decide +kernel
theorem dX2_spans_63 : decode cX2_spans 63 = .ok (.istore 5, 2) := by decide +kernel
theorem dX2_spans_65 : decode cX2_spans 65 = .ok (.iinc 6 1, 3) := by decide +kernel
theorem dX2_spans_68 : decode cX2_spans 68 = .ok (.goto (-59), 3) := by decide +kernel
theorem dX2_spans_71 : decode cX2_spans 71 = .ok (.iload 4, 2) := by decide +kernel
theorem dX2_spans_73 : decode cX2_spans 73 = .ok (.ireturn, 1) := by decide +kernel
set_option maxRecDepth 20000 in
theorem ggX2_spansWith_X2_isIn : GoodIn wsX2_spansWith wsX2_isIn := goodIn_r _ [5] (by decide +kernel) (by decide +kernel)
set_option maxRecDepth 20000 in
theorem gX2_spansWith_X2_isIn : GoodIn wsX2_spansWith (va_wsS RX2 30 yX2_isIn wsX2_isIn) := goodIn_app (goodIn_of _ (by decide +kernel)) ggX2_spansWith_X2_isIn
set_option maxRecDepth 20000 in
theorem ggX2_spansWith_X2_has : GoodIn wsX2_spansWith wsX2_has := goodIn_r _ [9, 10, 11, 12, 13, 14, 15, 16] (by decide +kernel) (by decide +kernel)
set_option maxRecDepth 20000 in
theorem gX2_spansWith_X2_has : GoodIn wsX2_spansWith (wsV RX2 34 RX2 yX2_has wsX2_has) := goodIn_app (goodIn_of _ (by decide +kernel)) ggX2_spansWith_X2_has
theorem dX2_spansWith_0 : decode cX2_spansWith 0 = .ok (.iconst 0, 1) := by decide +kernel
theorem dX2_spansWith_1 : decode cX2_spansWith 1 = .ok (.istore 5, 2) := by decide +kernel
theorem dX2_spansWith_3 : decode cX2_spansWith 3 = .ok (.iconst 0, 1) := by decide +kernel
theorem dX2_spansWith_4 : decode cX2_spansWith 4 = .ok (.istore 6, 2) := by decide +kernel
theorem dX2_spansWith_6 : decode cX2_spansWith 6 = .ok (.iconst 1, 1) := by decide +kernel
theorem dX2_spansWith_7 : decode cX2_spansWith 7 = .ok (.istore 7, 2) := by decide +kernel
theorem dX2_spansWith_9 : decode cX2_spansWith 9 = .ok (.iload 7, 2) := by decide +kernel
theorem dX2_spansWith_11 : decode cX2_spansWith 11 = .ok (.aload_n 0, 1) := by decide +kernel
theorem dX2_spansWith_12 : decode cX2_spansWith 12 = .ok (.getfield 9, 3) := by decide +kernel
theorem dX2_spansWith_15 : decode cX2_spansWith 15 = .ok (.if_icmp .gt 57, 3) := by decide +kernel
theorem dX2_spansWith_18 : decode cX2_spansWith 18 = .ok (.iload 7, 2) := by decide +kernel
theorem dX2_spansWith_20 : decode cX2_spansWith 20 = .ok (.iload_n 2, 1) := by decide +kernel
theorem dX2_spansWith_21 : decode cX2_spansWith 21 = .ok (.iload_n 3, 1) := by decide +kernel
theorem dX2_spansWith_22 : decode cX2_spansWith 22 = .ok (.invokestatic 30, 3) := by decide +kernel
theorem dX2_spansWith_25 : decode cX2_spansWith 25 = .ok (.ifCond .eq 8, 3) := by decide +kernel
theorem dX2_spansWith_28 : decode cX2_spansWith 28 = .ok (.iload 4, 2) := by decide +kernel
theorem dX2_spansWith_30 : decode cX2_spansWith 30 = .ok (.goto 10, 3) := by decide +kernel
theorem dX2_spansWith_33 : decode cX2_spansWith 33 = .ok (.aload_n 0, 1) := by decide +kernel
theorem dX2_spansWith_34 : decode cX2_spansWith 34 = .ok (.iload_n 1, 1) := by decide +kernel
theorem dX2_spansWith_35 : decode cX2_spansWith 35 = .ok (.iload 7, 2) := by decide +kernel
theorem dX2_spansWith_37 : decode cX2_spansWith 37 = .ok (.invokevirtual 34, 3) := by decide +kernel
theorem dX2_spansWith_40 : decode cX2_spansWith 40 = .ok (.istore 8, 2) := by decide +kernel
theorem dX2_spansWith_42 : decode cX2_spansWith 42 = .ok (.iload 5, 2) := by decide +kernel
theorem dX2_spansWith_44 : decode cX2_spansWith 44 = .ok (.iload 8, 2) := by decide +kernel
theorem dX2_spansWith_46 : decode cX2_spansWith 46 = .ok (.ifCond .eq 12, 3) := by decide +kernel
theorem dX2_spansWith_49 : decode cX2_spansWith 49 = .ok (.iload 6, 2) := by decide +kernel
theorem dX2_spansWith_51 : decode cX2_spansWith 51 = .ok (.ifCond .ne 7, 3) := by decide +kernel
theorem dX2_spansWith_54 : decode cX2_spansWith 54 = .ok (.iconst 1, 1) := by decide +kernel
theorem dX2_spansWith_55 : decode cX2_spansWith 55 = .ok (.goto 4, 3) := by decide +kernel
theorem dX2_spansWith_58 : decode cX2_spansWith 58 = .ok (.iconst 0, 1) := by decide +kernel
theorem dX2_spansWith_59 : decode cX2_spansWith 59 = .ok (.iadd, 1) := by decide +kernel
theorem dX2_spansWith_60 : decode cX2_spansWith 60 = .ok (.istore 5, 2) := by decide +kernel
theorem dX2_spansWith_62 : decode cX2_spansWith 62 = .ok (.iload 8, 2) := by decide +kernel
theorem dX2_spansWith_64 : decode cX2_spansWith 64 = .ok (.istore 6, 2) := by decide +kernel
theorem dX2_spansWith_66 : decode cX2_spansWith 66 = .ok (.iinc 7 1, 3) := by decide +kernel
theorem dX2_spansWith_69 : decode cX2_spansWith 69 = .ok (.goto (-60), 3) := by decide +kernel
theorem dX2_spansWith_72 : decode cX2_spansWith 72 = .ok (.iload 5, 2) := by decide +kernel
theorem dX2_spansWith_74 : decode cX2_spansWith 74 = .ok (.ireturn, 1) := by decide +kernel
set_option maxRecDepth 20000 in
theorem ggX2_many_X2_has : GoodIn wsX2_many wsX2_has := goodIn_r _ [6, 7, 8, 9, 10, 11, 12, 13] (by decide +kernel) (by decide +kernel)
set_option maxRecDepth 20000 in
theorem gX2_many_X2_has : GoodIn wsX2_many (wsV RX2 34 RX2 yX2_has wsX2_has) := goodIn_app (goodIn_of _ (by decide +kernel)) ggX2_many_X2_has
theorem dX2_many_0 : decode cX2_many 0 = .ok (.iconst 0, 1) := by decide +kernel
theorem dX2_many_1 : decode cX2_many 1 = .ok (.istore_n 2, 1) := by decide +kernel
theorem dX2_many_2 : decode cX2_many 2 = .ok (.iconst 1, 1) := by decide +kernel
theorem dX2_many_3 : decode cX2_many 3 = .ok (.istore_n 3, 1) := by decide +kernel
theorem dX2_many_4 : decode cX2_many 4 = .ok (.iload_n 3, 1) := by decide +kernel
theorem dX2_many_5 : decode cX2_many 5 = .ok (.aload_n 0, 1) := by decide +kernel
theorem dX2_many_6 : decode cX2_many 6 = .ok (.getfield 9, 3) := by decide +kernel
theorem dX2_many_9 : decode cX2_many 9 = .ok (.if_icmp .gt 26, 3) := by decide +kernel
theorem dX2_many_12 : decode cX2_many 12 = .ok (.iload_n 2, 1) := by decide +kernel
theorem dX2_many_13 : decode cX2_many 13 = .ok (.aload_n 0, 1) := by decide +kernel
theorem dX2_many_14 : decode cX2_many 14 = .ok (.iload_n 1, 1) := by decide +kernel
theorem dX2_many_15 : decode cX2_many 15 = .ok (.iload_n 3, 1) := by decide +kernel
theorem dX2_many_16 : decode cX2_many 16 = .ok (.invokevirtual 34, 3) := by decide +kernel
theorem dX2_many_19 : decode cX2_many 19 = .ok (.ifCond .eq 7, 3) := by decide +kernel
theorem dX2_many_22 : decode cX2_many 22 = .ok (.iconst 1, 1) := by decide +kernel
theorem dX2_many_23 : decode cX2_many 23 = .ok (.goto 4, 3) := by decide +kernel
theorem dX2_many_26 : decode cX2_many 26 = .ok (.iconst 0, 1) := by decide +kernel
theorem dX2_many_27 : decode cX2_many 27 = .ok (.iadd, 1) := by decide +kernel
theorem dX2_many_28 : decode cX2_many 28 = .ok (.istore_n 2, 1) := by decide +kernel
theorem dX2_many_29 : decode cX2_many 29 = .ok (.iinc 3 1, 3) := by decide +kernel
theorem dX2_many_32 : decode cX2_many 32 = .ok (.goto (-28), 3) := by decide +kernel
theorem dX2_many_35 : decode cX2_many 35 = .ok (.iload_n 2, 1) := by decide +kernel
theorem dX2_many_36 : decode cX2_many 36 = .ok (.ireturn, 1) := by decide +kernel
set_option maxRecDepth 20000 in
theorem ggX2_begins_X2_has : GoodIn wsX2_begins wsX2_has := goodIn_r _ [5, 6, 7, 8, 9, 10, 11, 12] (by decide +kernel) (by decide +kernel)
set_option maxRecDepth 20000 in
theorem gX2_begins_X2_has : GoodIn wsX2_begins (wsV RX2 34 RX2 yX2_has wsX2_has) := goodIn_app (goodIn_of _ (by decide +kernel)) ggX2_begins_X2_has
theorem dX2_begins_0 : decode cX2_begins 0 = .ok (.iconst 0, 1) := by decide +kernel
theorem dX2_begins_1 : decode cX2_begins 1 = .ok (.istore_n 3, 1) := by decide +kernel
theorem dX2_begins_2 : decode cX2_begins 2 = .ok (.iconst 0, 1) := by decide +kernel
theorem dX2_begins_3 : decode cX2_begins 3 = .ok (.istore 4, 2) := by decide +kernel
theorem dX2_begins_5 : decode cX2_begins 5 = .ok (.iload 4, 2) := by decide +kernel
theorem dX2_begins_7 : decode cX2_begins 7 = .ok (.iload_n 2, 1) := by decide +kernel
theorem dX2_begins_8 : decode cX2_begins 8 = .ok (.if_icmp .gt 39, 3) := by decide +kernel
theorem dX2_begins_11 : decode cX2_begins 11 = .ok (.aload_n 0, 1) := by decide +kernel
theorem dX2_begins_12 : decode cX2_begins 12 = .ok (.iload_n 1, 1) := by decide +kernel
theorem dX2_begins_13 : decode cX2_begins 13 = .ok (.iload_n 3, 1) := by decide +kernel
theorem dX2_begins_14 : decode cX2_begins 14 = .ok (.invokevirtual 34, 3) := by decide +kernel
theorem dX2_begins_17 : decode cX2_begins 17 = .ok (.ifCond .eq 9, 3) := by decide +kernel
theorem dX2_begins_20 : decode cX2_begins 20 = .ok (.iinc 3 1, 3) := by decide +kernel
theorem dX2_begins_23 : decode cX2_begins 23 = .ok (.goto (-12), 3) := by decide +kernel
theorem dX2_begins_26 : decode cX2_begins 26 = .ok (.aload_n 0, 1) := by decide +kernel
theorem dX2_begins_27 : decode cX2_begins 27 = .ok (.iload_n 1, 1) := by decide +kernel
theorem dX2_begins_28 : decode cX2_begins 28 = .ok (.iload_n 3, 1) := by decide +kernel
theorem dX2_begins_29 : decode cX2_begins 29 = .ok (.invokevirtual 34, 3) := by decide +kernel
theorem dX2_begins_32 : decode cX2_begins 32 = .ok (.ifCond .ne 9, 3) := by decide +kernel
theorem dX2_begins_35 : decode cX2_begins 35 = .ok (.iinc 3 1, 3) := by decide +kernel
theorem dX2_begins_38 : decode cX2_begins 38 = .ok (.goto (-12), 3) := by decide +kernel
theorem dX2_begins_41 : decode cX2_begins 41 = .ok (.iinc 4 1, 3) := by decide +kernel
theorem dX2_begins_44 : decode cX2_begins 44 = .ok (.goto (-39), 3) := by decide +kernel
theorem dX2_begins_47 : decode cX2_begins 47 = .ok (.iload_n 3, 1) := by decide +kernel
theorem dX2_begins_48 : decode cX2_begins 48 = .ok (.ireturn, 1) := by decide +kernel
set_option maxRecDepth 20000 in
theorem ggX2_ends_X2_begins : GoodIn wsX2_ends wsX2_begins := goodIn_r _ [5, 6, 7, 8, 4, 9, 10, 11, 12, 13, 14, 15, 16] (by decide +kernel) (by decide +kernel)
set_option maxRecDepth 20000 in
theorem gX2_ends_X2_begins : GoodIn wsX2_ends (wsV RX2 38 RX2 yX2_begins wsX2_begins) := goodIn_app (goodIn_of _ (by decide +kernel)) ggX2_ends_X2_begins
set_option maxRecDepth 20000 in
theorem ggX2_ends_X2_has : GoodIn wsX2_ends wsX2_has := goodIn_r _ [9, 10, 11, 12, 13, 14, 15, 16] (by decide +kernel) (by decide +kernel)
set_option maxRecDepth 20000 in
theorem gX2_ends_X2_has : GoodIn wsX2_ends (wsV RX2 34 RX2 yX2_has wsX2_has) := goodIn_app (goodIn_of _ (by decide +kernel)) ggX2_ends_X2_has
theorem dX2_ends_0 : decode cX2_ends 0 = .ok (.aload_n 0, 1) := by decide +kernel
theorem dX2_ends_1 : decode cX2_ends 1 = .ok (.iload_n 1, 1) := by decide +kernel
theorem dX2_ends_2 : decode cX2_ends 2 = .ok (.iload_n 2, 1) := by decide +kernel
theorem dX2_ends_3 : decode cX2_ends 3 = .ok (.invokevirtual 38, 3) := by decide +kernel
theorem dX2_ends_6 : decode cX2_ends 6 = .ok (.istore_n 3, 1) := by decide +kernel
theorem dX2_ends_7 : decode cX2_ends 7 = .ok (.aload_n 0, 1) := by decide +kernel
theorem dX2_ends_8 : decode cX2_ends 8 = .ok (.iload_n 1, 1) := by decide +kernel
theorem dX2_ends_9 : decode cX2_ends 9 = .ok (.iload_n 3, 1) := by decide +kernel
theorem dX2_ends_10 : decode cX2_ends 10 = .ok (.iconst 1, 1) := by decide +kernel
theorem dX2_ends_11 : decode cX2_ends 11 = .ok (.iadd, 1) := by decide +kernel
theorem dX2_ends_12 : decode cX2_ends 12 = .ok (.invokevirtual 34, 3) := by decide +kernel
theorem dX2_ends_15 : decode cX2_ends 15 = .ok (.ifCond .eq 9, 3) := by decide +kernel
theorem dX2_ends_18 : decode cX2_ends 18 = .ok (.iinc 3 1, 3) := by decide +kernel
theorem dX2_ends_21 : decode cX2_ends 21 = .ok (.goto (-14), 3) := by decide +kernel
theorem dX2_ends_24 : decode cX2_ends 24 = .ok (.iload_n 3, 1) := by decide +kernel
theorem dX2_ends_25 : decode cX2_ends 25 = .ok (.ireturn, 1) := by decide +kernel
set_option maxRecDepth 20000 in
theorem ggX2_common_X2_has : GoodIn wsX2_common wsX2_has := goodIn_r _ [6, 7, 8, 9, 10, 11, 12, 13] (by decide +kernel) (by decide +kernel)
set_option maxRecDepth 20000 in
theorem gX2_common_X2_has : GoodIn wsX2_common (wsV RX2 34 RX2 yX2_has wsX2_has) := goodIn_app (goodIn_of _ (by decide +kernel)) ggX2_common_X2_has
theorem dX2_common_0 : decode cX2_common 0 = .ok (.iconst 0, 1) := by decide +kernel
theorem dX2_common_1 : decode cX2_common 1 = .ok (.istore_n 3, 1) := by decide +kernel
theorem dX2_common_2 : decode cX2_common 2 = .ok (.iconst 1, 1) := by decide +kernel
theorem dX2_common_3 : decode cX2_common 3 = .ok (.istore 4, 2) := by decide +kernel
theorem dX2_common_5 : decode cX2_common 5 = .ok (.iload 4, 2) := by decide +kernel
theorem dX2_common_7 : decode cX2_common 7 = .ok (.aload_n 0, 1) := by decide +kernel
theorem dX2_common_8 : decode cX2_common 8 = .ok (.getfield 9, 3) := by decide +kernel
theorem dX2_common_11 : decode cX2_common 11 = .ok (.if_icmp .gt 37, 3) := by decide +kernel
theorem dX2_common_14 : decode cX2_common 14 = .ok (.iload_n 3, 1) := by decide +kernel
theorem dX2_common_15 : decode cX2_common 15 = .ok (.aload_n 0, 1) := by decide +kernel
theorem dX2_common_16 : decode cX2_common 16 = .ok (.iload_n 1, 1) := by decide +kernel
theorem dX2_common_17 : decode cX2_common 17 = .ok (.iload 4, 2) := by decide +kernel
theorem dX2_common_19 : decode cX2_common 19 = .ok (.invokevirtual 34, 3) := by decide +kernel
theorem dX2_common_22 : decode cX2_common 22 = .ok (.ifCond .eq 17, 3) := by decide +kernel
theorem dX2_common_25 : decode cX2_common 25 = .ok (.aload_n 0, 1) := by decide +kernel
theorem dX2_common_26 : decode cX2_common 26 = .ok (.iload_n 2, 1) := by decide +kernel
theorem dX2_common_27 : decode cX2_common 27 = .ok (.iload 4, 2) := by decide +kernel
theorem dX2_common_29 : decode cX2_common 29 = .ok (.invokevirtual 34, 3) := by decide +kernel
theorem dX2_common_32 : decode cX2_common 32 = .ok (.ifCond .eq 7, 3) := by decide +kernel
theorem dX2_common_35 : decode cX2_common 35 = .ok (.iconst 1, 1) := by decide +kernel
theorem dX2_common_36 : decode cX2_common 36 = .ok (.goto 4, 3) := by decide +kernel
theorem dX2_common_39 : decode cX2_common 39 = .ok (.iconst 0, 1) := by decide +kernel
theorem dX2_common_40 : decode cX2_common 40 = .ok (.iadd, 1) := by decide +kernel
theorem dX2_common_41 : decode cX2_common 41 = .ok (.istore_n 3, 1) := by decide +kernel
theorem dX2_common_42 : decode cX2_common 42 = .ok (.iinc 4 1, 3) := by decide +kernel
theorem dX2_common_45 : decode cX2_common 45 = .ok (.goto (-40), 3) := by decide +kernel
theorem dX2_common_48 : decode cX2_common 48 = .ok (.iload_n 3, 1) := by decide +kernel
theorem dX2_common_49 : decode cX2_common 49 = .ok (.ireturn, 1) := by decide +kernel
set_option maxRecDepth 20000 in
theorem ggX2_near_X2_common : GoodIn wsX2_near wsX2_common := goodIn_r _ [6, 7, 8, 9, 10, 5, 11, 12, 13, 14, 15, 16, 17, 18] (by decide +kernel) (by decide +kernel)
set_option maxRecDepth 20000 in
theorem gX2_near_X2_common : GoodIn wsX2_near (wsV RX2 42 RX2 yX2_common wsX2_common) := goodIn_app (goodIn_of _ (by decide +kernel)) ggX2_near_X2_common
theorem dX2_near_0 : decode cX2_near 0 = .ok (.iconst (-1), 1) := by decide +kernel
theorem dX2_near_1 : decode cX2_near 1 = .ok (.istore_n 2, 1) := by decide +kernel
theorem dX2_near_2 : decode cX2_near 2 = .ok (.iconst 0, 1) := by decide +kernel
theorem dX2_near_3 : decode cX2_near 3 = .ok (.istore_n 3, 1) := by decide +kernel
theorem dX2_near_4 : decode cX2_near 4 = .ok (.iconst 0, 1) := by decide +kernel
theorem dX2_near_5 : decode cX2_near 5 = .ok (.istore 4, 2) := by decide +kernel
theorem dX2_near_7 : decode cX2_near 7 = .ok (.iload 4, 2) := by decide +kernel
theorem dX2_near_9 : decode cX2_near 9 = .ok (.aload_n 0, 1) := by decide +kernel
theorem dX2_near_10 : decode cX2_near 10 = .ok (.getfield 27, 3) := by decide +kernel
theorem dX2_near_13 : decode cX2_near 13 = .ok (.if_icmp .ge 43, 3) := by decide +kernel
theorem dX2_near_16 : decode cX2_near 16 = .ok (.iload 4, 2) := by decide +kernel
theorem dX2_near_18 : decode cX2_near 18 = .ok (.iload_n 1, 1) := by decide +kernel
theorem dX2_near_19 : decode cX2_near 19 = .ok (.if_icmp .ne 7, 3) := by decide +kernel
theorem dX2_near_22 : decode cX2_near 22 = .ok (.iconst 0, 1) := by decide +kernel
theorem dX2_near_23 : decode cX2_near 23 = .ok (.goto 10, 3) := by decide +kernel
theorem dX2_near_26 : decode cX2_near 26 = .ok (.aload_n 0, 1) := by decide +kernel
theorem dX2_near_27 : decode cX2_near 27 = .ok (.iload_n 1, 1) := by decide +kernel
theorem dX2_near_28 : decode cX2_near 28 = .ok (.iload 4, 2) := by decide +kernel
theorem dX2_near_30 : decode cX2_near 30 = .ok (.invokevirtual 42, 3) := by decide +kernel
theorem dX2_near_33 : decode cX2_near 33 = .ok (.istore 5, 2) := by decide +kernel
theorem dX2_near_35 : decode cX2_near 35 = .ok (.iload 5, 2) := by decide +kernel
theorem dX2_near_37 : decode cX2_near 37 = .ok (.iload_n 3, 1) := by decide +kernel
theorem dX2_near_38 : decode cX2_near 38 = .ok (.if_icmp .gt 6, 3) := by decide +kernel
theorem dX2_near_41 : decode cX2_near 41 = .ok (.goto 9, 3) := by decide +kernel
theorem dX2_near_44 : decode cX2_near 44 = .ok (.iload 4, 2) := by decide +kernel
theorem dX2_near_46 : decode cX2_near 46 = .ok (.istore_n 2, 1) := by decide +kernel
theorem dX2_near_47 : decode cX2_near 47 = .ok (.iload 5, 2) := by decide +kernel
theorem dX2_near_49 : decode cX2_near 49 = .ok (.istore_n 3, 1) := by decide +kernel
theorem dX2_near_50 : decode cX2_near 50 = .ok (.iinc 4 1, 3) := by decide +kernel
theorem dX2_near_53 : decode cX2_near 53 = .ok (.goto (-46), 3) := by decide +kernel
theorem dX2_near_56 : decode cX2_near 56 = .ok (.iload_n 2, 1) := by decide +kernel
theorem dX2_near_57 : decode cX2_near 57 = .ok (.ireturn, 1) := by decide +kernel
set_option maxRecDepth 20000 in
theorem ggX2_onPage_X2_has : GoodIn wsX2_onPage wsX2_has := goodIn_r _ [6, 7, 8, 9, 10, 11, 12, 13] (by decide +kernel) (by decide +kernel)
set_option maxRecDepth 20000 in
theorem gX2_onPage_X2_has : GoodIn wsX2_onPage (wsV RX2 34 RX2 yX2_has wsX2_has) := goodIn_app (goodIn_of _ (by decide +kernel)) ggX2_onPage_X2_has
theorem dX2_onPage_0 : decode cX2_onPage 0 = .ok (.iconst 0, 1) := by decide +kernel
theorem dX2_onPage_1 : decode cX2_onPage 1 = .ok (.istore_n 2, 1) := by decide +kernel
theorem dX2_onPage_2 : decode cX2_onPage 2 = .ok (.iconst 0, 1) := by decide +kernel
theorem dX2_onPage_3 : decode cX2_onPage 3 = .ok (.istore_n 3, 1) := by decide +kernel
theorem dX2_onPage_4 : decode cX2_onPage 4 = .ok (.iload_n 3, 1) := by decide +kernel
theorem dX2_onPage_5 : decode cX2_onPage 5 = .ok (.aload_n 0, 1) := by decide +kernel
theorem dX2_onPage_6 : decode cX2_onPage 6 = .ok (.getfield 27, 3) := by decide +kernel
theorem dX2_onPage_9 : decode cX2_onPage 9 = .ok (.if_icmp .ge 26, 3) := by decide +kernel
theorem dX2_onPage_12 : decode cX2_onPage 12 = .ok (.iload_n 2, 1) := by decide +kernel
theorem dX2_onPage_13 : decode cX2_onPage 13 = .ok (.aload_n 0, 1) := by decide +kernel
theorem dX2_onPage_14 : decode cX2_onPage 14 = .ok (.iload_n 3, 1) := by decide +kernel
theorem dX2_onPage_15 : decode cX2_onPage 15 = .ok (.iload_n 1, 1) := by decide +kernel
theorem dX2_onPage_16 : decode cX2_onPage 16 = .ok (.invokevirtual 34, 3) := by decide +kernel
theorem dX2_onPage_19 : decode cX2_onPage 19 = .ok (.ifCond .eq 7, 3) := by decide +kernel
theorem dX2_onPage_22 : decode cX2_onPage 22 = .ok (.iconst 1, 1) := by decide +kernel
theorem dX2_onPage_23 : decode cX2_onPage 23 = .ok (.goto 4, 3) := by decide +kernel
theorem dX2_onPage_26 : decode cX2_onPage 26 = .ok (.iconst 0, 1) := by decide +kernel
theorem dX2_onPage_27 : decode cX2_onPage 27 = .ok (.iadd, 1) := by decide +kernel
theorem dX2_onPage_28 : decode cX2_onPage 28 = .ok (.istore_n 2, 1) := by decide +kernel
theorem dX2_onPage_29 : decode cX2_onPage 29 = .ok (.iinc 3 1, 3) := by decide +kernel
theorem dX2_onPage_32 : decode cX2_onPage 32 = .ok (.goto (-28), 3) := by decide +kernel
theorem dX2_onPage_35 : decode cX2_onPage 35 = .ok (.iload_n 2, 1) := by decide +kernel
theorem dX2_onPage_36 : decode cX2_onPage 36 = .ok (.ireturn, 1) := by decide +kernel
set_option maxRecDepth 20000 in
theorem ggX2_bare_X2_onPage : GoodIn wsX2_bare wsX2_onPage := goodIn_r _ [6, 7, 8, 9, 10, 5, 11, 12, 13, 14, 15, 16, 17, 18] (by decide +kernel) (by decide +kernel)
set_option maxRecDepth 20000 in
theorem gX2_bare_X2_onPage : GoodIn wsX2_bare (wsV RX2 45 RX2 yX2_onPage wsX2_onPage) := goodIn_app (goodIn_of _ (by decide +kernel)) ggX2_bare_X2_onPage
theorem dX2_bare_0 : decode cX2_bare 0 = .ok (.iconst 0, 1) := by decide +kernel
theorem dX2_bare_1 : decode cX2_bare 1 = .ok (.istore_n 1, 1) := by decide +kernel
theorem dX2_bare_2 : decode cX2_bare 2 = .ok (.iconst 1, 1) := by decide +kernel
theorem dX2_bare_3 : decode cX2_bare 3 = .ok (.istore_n 2, 1) := by decide +kernel
theorem dX2_bare_4 : decode cX2_bare 4 = .ok (.iload_n 2, 1) := by decide +kernel
theorem dX2_bare_5 : decode cX2_bare 5 = .ok (.aload_n 0, 1) := by decide +kernel
theorem dX2_bare_6 : decode cX2_bare 6 = .ok (.getfield 9, 3) := by decide +kernel
theorem dX2_bare_9 : decode cX2_bare 9 = .ok (.if_icmp .gt 25, 3) := by decide +kernel
theorem dX2_bare_12 : decode cX2_bare 12 = .ok (.iload_n 1, 1) := by decide +kernel
theorem dX2_bare_13 : decode cX2_bare 13 = .ok (.aload_n 0, 1) := by decide +kernel
theorem dX2_bare_14 : decode cX2_bare 14 = .ok (.iload_n 2, 1) := by decide +kernel
theorem dX2_bare_15 : decode cX2_bare 15 = .ok (.invokevirtual 45, 3) := by decide +kernel
theorem dX2_bare_18 : decode cX2_bare 18 = .ok (.ifCond .ne 7, 3) := by decide +kernel
theorem dX2_bare_21 : decode cX2_bare 21 = .ok (.iconst 1, 1) := by decide +kernel
theorem dX2_bare_22 : decode cX2_bare 22 = .ok (.goto 4, 3) := by decide +kernel
theorem dX2_bare_25 : decode cX2_bare 25 = .ok (.iconst 0, 1) := by decide +kernel
theorem dX2_bare_26 : decode cX2_bare 26 = .ok (.iadd, 1) := by decide +kernel
theorem dX2_bare_27 : decode cX2_bare 27 = .ok (.istore_n 1, 1) := by decide +kernel
theorem dX2_bare_28 : decode cX2_bare 28 = .ok (.iinc 2 1, 3) := by decide +kernel
theorem dX2_bare_31 : decode cX2_bare 31 = .ok (.goto (-27), 3) := by decide +kernel
theorem dX2_bare_34 : decode cX2_bare 34 = .ok (.iload_n 1, 1) := by decide +kernel
theorem dX2_bare_35 : decode cX2_bare 35 = .ok (.ireturn, 1) := by decide +kernel
set_option maxRecDepth 20000 in
theorem ggX2_fullest_X2_onPage : GoodIn wsX2_fullest wsX2_onPage := goodIn_r _ [6, 7, 8, 9, 10, 5, 11, 12, 13, 14, 15, 16, 17, 18] (by decide +kernel) (by decide +kernel)
set_option maxRecDepth 20000 in
theorem gX2_fullest_X2_onPage : GoodIn wsX2_fullest (wsV RX2 45 RX2 yX2_onPage wsX2_onPage) := goodIn_app (goodIn_of _ (by decide +kernel)) ggX2_fullest_X2_onPage
theorem dX2_fullest_0 : decode cX2_fullest 0 = .ok (.iconst 1, 1) := by decide +kernel
theorem dX2_fullest_1 : decode cX2_fullest 1 = .ok (.istore_n 1, 1) := by decide +kernel
theorem dX2_fullest_2 : decode cX2_fullest 2 = .ok (.iconst 2, 1) := by decide +kernel
theorem dX2_fullest_3 : decode cX2_fullest 3 = .ok (.istore_n 2, 1) := by decide +kernel
theorem dX2_fullest_4 : decode cX2_fullest 4 = .ok (.iload_n 2, 1) := by decide +kernel
theorem dX2_fullest_5 : decode cX2_fullest 5 = .ok (.aload_n 0, 1) := by decide +kernel
theorem dX2_fullest_6 : decode cX2_fullest 6 = .ok (.getfield 9, 3) := by decide +kernel
theorem dX2_fullest_9 : decode cX2_fullest 9 = .ok (.if_icmp .gt 24, 3) := by decide +kernel
theorem dX2_fullest_12 : decode cX2_fullest 12 = .ok (.aload_n 0, 1) := by decide +kernel
theorem dX2_fullest_13 : decode cX2_fullest 13 = .ok (.iload_n 2, 1) := by decide +kernel
theorem dX2_fullest_14 : decode cX2_fullest 14 = .ok (.invokevirtual 45, 3) := by decide +kernel
theorem dX2_fullest_17 : decode cX2_fullest 17 = .ok (.aload_n 0, 1) := by decide +kernel
theorem dX2_fullest_18 : decode cX2_fullest 18 = .ok (.iload_n 1, 1) := by decide +kernel
theorem dX2_fullest_19 : decode cX2_fullest 19 = .ok (.invokevirtual 45, 3) := by decide +kernel
theorem dX2_fullest_22 : decode cX2_fullest 22 = .ok (.if_icmp .le 5, 3) := by decide +kernel
theorem dX2_fullest_25 : decode cX2_fullest 25 = .ok (.iload_n 2, 1) := by decide +kernel
theorem dX2_fullest_26 : decode cX2_fullest 26 = .ok (.istore_n 1, 1) := by decide +kernel
theorem dX2_fullest_27 : decode cX2_fullest 27 = .ok (.iinc 2 1, 3) := by decide +kernel
theorem dX2_fullest_30 : decode cX2_fullest 30 = .ok (.goto (-26), 3) := by decide +kernel
theorem dX2_fullest_33 : decode cX2_fullest 33 = .ok (.iload_n 1, 1) := by decide +kernel
theorem dX2_fullest_34 : decode cX2_fullest 34 = .ok (.ireturn, 1) := by decide +kernel
theorem dX2_end_0 : decode cX2_end 0 = .ok (.iload_n 1, 1) := by decide +kernel
theorem dX2_end_1 : decode cX2_end 1 = .ok (.istore_n 2, 1) := by decide +kernel
theorem dX2_end_2 : decode cX2_end 2 = .ok (.iconst 0, 1) := by decide +kernel
theorem dX2_end_3 : decode cX2_end 3 = .ok (.istore_n 3, 1) := by decide +kernel
theorem dX2_end_4 : decode cX2_end 4 = .ok (.iload_n 3, 1) := by decide +kernel
theorem dX2_end_5 : decode cX2_end 5 = .ok (.aload_n 0, 1) := by decide +kernel
theorem dX2_end_6 : decode cX2_end 6 = .ok (.getfield 27, 3) := by decide +kernel
theorem dX2_end_9 : decode cX2_end 9 = .ok (.if_icmp .gt 28, 3) := by decide +kernel
theorem dX2_end_12 : decode cX2_end 12 = .ok (.aload_n 0, 1) := by decide +kernel
theorem dX2_end_13 : decode cX2_end 13 = .ok (.getfield 17, 3) := by decide +kernel
theorem dX2_end_16 : decode cX2_end 16 = .ok (.iload_n 2, 1) := by decide +kernel
theorem dX2_end_17 : decode cX2_end 17 = .ok (.iaload, 1) := by decide +kernel
theorem dX2_end_18 : decode cX2_end 18 = .ok (.iconst (-1), 1) := by decide +kernel
theorem dX2_end_19 : decode cX2_end 19 = .ok (.if_icmp .ne 5, 3) := by decide +kernel
theorem dX2_end_22 : decode cX2_end 22 = .ok (.iload_n 2, 1) := by decide +kernel
theorem dX2_end_23 : decode cX2_end 23 = .ok (.ireturn, 1) := by decide +kernel
theorem dX2_end_24 : decode cX2_end 24 = .ok (.aload_n 0, 1) := by decide +kernel
theorem dX2_end_25 : decode cX2_end 25 = .ok (.getfield 17, 3) := by decide +kernel
theorem dX2_end_28 : decode cX2_end 28 = .ok (.iload_n 2, 1) := by decide +kernel
theorem dX2_end_29 : decode cX2_end 29 = .ok (.iaload, 1) := by decide +kernel
theorem dX2_end_30 : decode cX2_end 30 = .ok (.istore_n 2, 1) := by decide +kernel
theorem dX2_end_31 : decode cX2_end 31 = .ok (.iinc 3 1, 3) := by decide +kernel
theorem dX2_end_34 : decode cX2_end 34 = .ok (.goto (-30), 3) := by decide +kernel
theorem dX2_end_37 : decode cX2_end 37 = .ok (.iconst (-1), 1) := by decide +kernel
theorem dX2_end_38 : decode cX2_end 38 = .ok (.ireturn, 1) := by decide +kernel
set_option maxRecDepth 20000 in
theorem ggX2_vain_X2_end : GoodIn wsX2_vain wsX2_end := goodIn_r _ [7, 1, 2, 18, 19, 20, 21, 22, 23] (by decide +kernel) (by decide +kernel)
set_option maxRecDepth 20000 in
theorem gX2_vain_X2_end : GoodIn wsX2_vain (wsV RX2 49 RX2 yX2_end wsX2_end) := goodIn_app (goodIn_of _ (by decide +kernel)) ggX2_vain_X2_end
set_option maxRecDepth 20000 in
theorem ggX2_vain_X2_many : GoodIn wsX2_vain wsX2_many := goodIn_r _ [11, 12, 13, 14, 15, 6, 16, 17, 18, 19, 20, 21, 22, 23] (by decide +kernel) (by decide +kernel)
set_option maxRecDepth 20000 in
theorem gX2_vain_X2_many : GoodIn wsX2_vain (wsV RX2 52 RX2 yX2_many wsX2_many) := goodIn_app (goodIn_of _ (by decide +kernel)) ggX2_vain_X2_many
theorem dX2_vain_0 : decode cX2_vain 0 = .ok (.iconst 0, 1) := by decide +kernel
theorem dX2_vain_1 : decode cX2_vain 1 = .ok (.istore_n 1, 1) := by decide +kernel
theorem dX2_vain_2 : decode cX2_vain 2 = .ok (.iconst 0, 1) := by decide +kernel
theorem dX2_vain_3 : decode cX2_vain 3 = .ok (.istore_n 2, 1) := by decide +kernel
theorem dX2_vain_4 : decode cX2_vain 4 = .ok (.iload_n 2, 1) := by decide +kernel
theorem dX2_vain_5 : decode cX2_vain 5 = .ok (.aload_n 0, 1) := by decide +kernel
theorem dX2_vain_6 : decode cX2_vain 6 = .ok (.getfield 27, 3) := by decide +kernel
theorem dX2_vain_9 : decode cX2_vain 9 = .ok (.if_icmp .ge 48, 3) := by decide +kernel
theorem dX2_vain_12 : decode cX2_vain 12 = .ok (.iload_n 1, 1) := by decide +kernel
theorem dX2_vain_13 : decode cX2_vain 13 = .ok (.aload_n 0, 1) := by decide +kernel
theorem dX2_vain_14 : decode cX2_vain 14 = .ok (.getfield 17, 3) := by decide +kernel
theorem dX2_vain_17 : decode cX2_vain 17 = .ok (.iload_n 2, 1) := by decide +kernel
theorem dX2_vain_18 : decode cX2_vain 18 = .ok (.iaload, 1) := by decide +kernel
theorem dX2_vain_19 : decode cX2_vain 19 = .ok (.iconst (-1), 1) := by decide +kernel
theorem dX2_vain_20 : decode cX2_vain 20 = .ok (.if_icmp .eq 28, 3) := by decide +kernel
theorem dX2_vain_23 : decode cX2_vain 23 = .ok (.aload_n 0, 1) := by decide +kernel
theorem dX2_vain_24 : decode cX2_vain 24 = .ok (.iload_n 2, 1) := by decide +kernel
theorem dX2_vain_25 : decode cX2_vain 25 = .ok (.invokevirtual 49, 3) := by decide +kernel
theorem dX2_vain_28 : decode cX2_vain 28 = .ok (.iconst (-1), 1) := by decide +kernel
theorem dX2_vain_29 : decode cX2_vain 29 = .ok (.if_icmp .eq 15, 3) := by decide +kernel
theorem dX2_vain_32 : decode cX2_vain 32 = .ok (.aload_n 0, 1) := by decide +kernel
theorem dX2_vain_33 : decode cX2_vain 33 = .ok (.aload_n 0, 1) := by decide +kernel
theorem dX2_vain_34 : decode cX2_vain 34 = .ok (.iload_n 2, 1) := by decide +kernel
theorem dX2_vain_35 : decode cX2_vain 35 = .ok (.invokevirtual 49, 3) := by decide +kernel
theorem dX2_vain_38 : decode cX2_vain 38 = .ok (.invokevirtual 52, 3) := by decide +kernel
theorem dX2_vain_41 : decode cX2_vain 41 = .ok (.ifCond .ne 7, 3) := by decide +kernel
theorem dX2_vain_44 : decode cX2_vain 44 = .ok (.iconst 1, 1) := by decide +kernel
theorem dX2_vain_45 : decode cX2_vain 45 = .ok (.goto 4, 3) := by decide +kernel
theorem dX2_vain_48 : decode cX2_vain 48 = .ok (.iconst 0, 1) := by decide +kernel
theorem dX2_vain_49 : decode cX2_vain 49 = .ok (.iadd, 1) := by decide +kernel
theorem dX2_vain_50 : decode cX2_vain 50 = .ok (.istore_n 1, 1) := by decide +kernel
theorem dX2_vain_51 : decode cX2_vain 51 = .ok (.iinc 2 1, 3) := by decide +kernel
theorem dX2_vain_54 : decode cX2_vain 54 = .ok (.goto (-50), 3) := by decide +kernel
theorem dX2_vain_57 : decode cX2_vain 57 = .ok (.iload_n 1, 1) := by decide +kernel
theorem dX2_vain_58 : decode cX2_vain 58 = .ok (.ireturn, 1) := by decide +kernel
theorem dX2_step_0 : decode cX2_step 0 = .ok (.iconst 0, 1) := by decide +kernel
theorem dX2_step_1 : decode cX2_step 1 = .ok (.istore_n 2, 1) := by decide +kernel
theorem dX2_step_2 : decode cX2_step 2 = .ok (.iconst 0, 1) := by decide +kernel
theorem dX2_step_3 : decode cX2_step 3 = .ok (.istore_n 3, 1) := by decide +kernel
theorem dX2_step_4 : decode cX2_step 4 = .ok (.iload_n 3, 1) := by decide +kernel
theorem dX2_step_5 : decode cX2_step 5 = .ok (.aload_n 0, 1) := by decide +kernel
theorem dX2_step_6 : decode cX2_step 6 = .ok (.getfield 27, 3) := by decide +kernel
theorem dX2_step_9 : decode cX2_step 9 = .ok (.if_icmp .ge 50, 3) := by decide +kernel
theorem dX2_step_12 : decode cX2_step 12 = .ok (.iload_n 1, 1) := by decide +kernel
theorem dX2_step_13 : decode cX2_step 13 = .ok (.iload_n 3, 1) := by decide +kernel
theorem dX2_step_14 : decode cX2_step 14 = .ok (.ishr, 1) := by decide +kernel
theorem dX2_step_15 : decode cX2_step 15 = .ok (.iconst 1, 1) := by decide +kernel
theorem dX2_step_16 : decode cX2_step 16 = .ok (.iand, 1) := by decide +kernel
theorem dX2_step_17 : decode cX2_step 17 = .ok (.iconst 1, 1) := by decide +kernel
theorem dX2_step_18 : decode cX2_step 18 = .ok (.if_icmp .ne 35, 3) := by decide +kernel
theorem dX2_step_21 : decode cX2_step 21 = .ok (.iload_n 2, 1) := by decide +kernel
theorem dX2_step_22 : decode cX2_step 22 = .ok (.aload_n 0, 1) := by decide +kernel
theorem dX2_step_23 : decode cX2_step 23 = .ok (.getfield 21, 3) := by decide +kernel
theorem dX2_step_26 : decode cX2_step 26 = .ok (.iload_n 3, 1) := by decide +kernel
theorem dX2_step_27 : decode cX2_step 27 = .ok (.iaload, 1) := by decide +kernel
theorem dX2_step_28 : decode cX2_step 28 = .ok (.aload_n 0, 1) := by decide +kernel
theorem dX2_step_29 : decode cX2_step 29 = .ok (.getfield 17, 3) := by decide +kernel
theorem dX2_step_32 : decode cX2_step 32 = .ok (.iload_n 3, 1) := by decide +kernel
theorem dX2_step_33 : decode cX2_step 33 = .ok (.iaload, 1) := by decide +kernel
theorem dX2_step_34 : decode cX2_step 34 = .ok (.iconst (-1), 1) := by decide +kernel
theorem dX2_step_35 : decode cX2_step 35 = .ok (.if_icmp .ne 7, 3) := by decide +kernel
theorem dX2_step_38 : decode cX2_step 38 = .ok (.iconst 0, 1) := by decide +kernel
theorem dX2_step_39 : decode cX2_step 39 = .ok (.goto 11, 3) := by decide +kernel
theorem dX2_step_42 : decode cX2_step 42 = .ok (.iconst 1, 1) := by decide +kernel
theorem dX2_step_43 : decode cX2_step 43 = .ok (.aload_n 0, 1) := by decide +kernel
theorem dX2_step_44 : decode cX2_step 44 = .ok (.getfield 17, 3) := by decide +kernel
theorem dX2_step_47 : decode cX2_step 47 = .ok (.iload_n 3, 1) := by decide +kernel
theorem dX2_step_48 : decode cX2_step 48 = .ok (.iaload, 1) := by decide +kernel
theorem dX2_step_49 : decode cX2_step 49 = .ok (.ishl, 1) := by decide +kernel
theorem dX2_step_50 : decode cX2_step 50 = .ok (.ior, 1) := by decide +kernel
theorem dX2_step_51 : decode cX2_step 51 = .ok (.ior, 1) := by decide +kernel
theorem dX2_step_52 : decode cX2_step 52 = .ok (.istore_n 2, 1) := by decide +kernel
theorem dX2_step_53 : decode cX2_step 53 = .ok (.iinc 3 1, 3) := by decide +kernel
theorem dX2_step_56 : decode cX2_step 56 = .ok (.goto (-52), 3) := by decide +kernel
theorem dX2_step_59 : decode cX2_step 59 = .ok (.iload_n 2, 1) := by decide +kernel
theorem dX2_step_60 : decode cX2_step 60 = .ok (.ireturn, 1) := by decide +kernel
set_option maxRecDepth 20000 in
theorem ggX2_all_X2_step : GoodIn wsX2_all wsX2_step := goodIn_r _ [5, 6, 7, 8, 9, 10, 11, 12, 13, 14] (by decide +kernel) (by decide +kernel)
set_option maxRecDepth 20000 in
theorem gX2_all_X2_step : GoodIn wsX2_all (wsV RX2 55 RX2 yX2_step wsX2_step) := goodIn_app (goodIn_of _ (by decide +kernel)) ggX2_all_X2_step
theorem dX2_all_0 : decode cX2_all 0 = .ok (.iload_n 1, 1) := by decide +kernel
theorem dX2_all_1 : decode cX2_all 1 = .ok (.istore_n 2, 1) := by decide +kernel
theorem dX2_all_2 : decode cX2_all 2 = .ok (.aload_n 0, 1) := by decide +kernel
theorem dX2_all_3 : decode cX2_all 3 = .ok (.iload_n 2, 1) := by decide +kernel
theorem dX2_all_4 : decode cX2_all 4 = .ok (.invokevirtual 55, 3) := by decide +kernel
theorem dX2_all_7 : decode cX2_all 7 = .ok (.iload_n 2, 1) := by decide +kernel
theorem dX2_all_8 : decode cX2_all 8 = .ok (.iconst (-1), 1) := by decide +kernel
theorem dX2_all_9 : decode cX2_all 9 = .ok (.ixor, 1) := by decide +kernel
theorem dX2_all_10 : decode cX2_all 10 = .ok (.iand, 1) := by decide +kernel
theorem dX2_all_11 : decode cX2_all 11 = .ok (.ifCond .eq 14, 3) := by decide +kernel
theorem dX2_all_14 : decode cX2_all 14 = .ok (.iload_n 2, 1) := by decide +kernel
theorem dX2_all_15 : decode cX2_all 15 = .ok (.aload_n 0, 1) := by decide +kernel
theorem dX2_all_16 : decode cX2_all 16 = .ok (.iload_n 2, 1) := by decide +kernel
theorem dX2_all_17 : decode cX2_all 17 = .ok (.invokevirtual 55, 3) := by decide +kernel
theorem dX2_all_20 : decode cX2_all 20 = .ok (.ior, 1) := by decide +kernel
theorem dX2_all_21 : decode cX2_all 21 = .ok (.istore_n 2, 1) := by decide +kernel
theorem dX2_all_22 : decode cX2_all 22 = .ok (.goto (-20), 3) := by decide +kernel
theorem dX2_all_25 : decode cX2_all 25 = .ok (.iload_n 2, 1) := by decide +kernel
theorem dX2_all_26 : decode cX2_all 26 = .ok (.ireturn, 1) := by decide +kernel
set_option maxRecDepth 20000 in
theorem ggX2_far_X2_step : GoodIn wsX2_far wsX2_step := goodIn_r _ [5, 6, 7, 8, 9, 10, 11, 12, 13, 14] (by decide +kernel) (by decide +kernel)
set_option maxRecDepth 20000 in
theorem gX2_far_X2_step : GoodIn wsX2_far (wsV RX2 55 RX2 yX2_step wsX2_step) := goodIn_app (goodIn_of _ (by decide +kernel)) ggX2_far_X2_step
theorem dX2_far_0 : decode cX2_far 0 = .ok (.iconst 1, 1) := by decide +kernel
theorem dX2_far_1 : decode cX2_far 1 = .ok (.iload_n 1, 1) := by decide +kernel
theorem dX2_far_2 : decode cX2_far 2 = .ok (.ishl, 1) := by decide +kernel
theorem dX2_far_3 : decode cX2_far 3 = .ok (.istore_n 3, 1) := by decide +kernel
theorem dX2_far_4 : decode cX2_far 4 = .ok (.iconst 0, 1) := by decide +kernel
theorem dX2_far_5 : decode cX2_far 5 = .ok (.istore 4, 2) := by decide +kernel
theorem dX2_far_7 : decode cX2_far 7 = .ok (.iload_n 3, 1) := by decide +kernel
theorem dX2_far_8 : decode cX2_far 8 = .ok (.iload_n 2, 1) := by decide +kernel
theorem dX2_far_9 : decode cX2_far 9 = .ok (.ishr, 1) := by decide +kernel
theorem dX2_far_10 : decode cX2_far 10 = .ok (.iconst 1, 1) := by decide +kernel
theorem dX2_far_11 : decode cX2_far 11 = .ok (.iand, 1) := by decide +kernel
theorem dX2_far_12 : decode cX2_far 12 = .ok (.ifCond .ne 29, 3) := by decide +kernel
theorem dX2_far_15 : decode cX2_far 15 = .ok (.iload_n 3, 1) := by decide +kernel
theorem dX2_far_16 : decode cX2_far 16 = .ok (.aload_n 0, 1) := by decide +kernel
theorem dX2_far_17 : decode cX2_far 17 = .ok (.iload_n 3, 1) := by decide +kernel
theorem dX2_far_18 : decode cX2_far 18 = .ok (.invokevirtual 55, 3) := by decide +kernel
theorem dX2_far_21 : decode cX2_far 21 = .ok (.ior, 1) := by decide +kernel
theorem dX2_far_22 : decode cX2_far 22 = .ok (.istore 5, 2) := by decide +kernel
theorem dX2_far_24 : decode cX2_far 24 = .ok (.iload 5, 2) := by decide +kernel
theorem dX2_far_26 : decode cX2_far 26 = .ok (.iload_n 3, 1) := by decide +kernel
theorem dX2_far_27 : decode cX2_far 27 = .ok (.if_icmp .ne 5, 3) := by decide +kernel
theorem dX2_far_30 : decode cX2_far 30 = .ok (.iconst (-1), 1) := by decide +kernel
theorem dX2_far_31 : decode cX2_far 31 = .ok (.ireturn, 1) := by decide +kernel
theorem dX2_far_32 : decode cX2_far 32 = .ok (.iload 5, 2) := by decide +kernel
theorem dX2_far_34 : decode cX2_far 34 = .ok (.istore_n 3, 1) := by decide +kernel
theorem dX2_far_35 : decode cX2_far 35 = .ok (.iinc 4 1, 3) := by decide +kernel
theorem dX2_far_38 : decode cX2_far 38 = .ok (.goto (-31), 3) := by decide +kernel
theorem dX2_far_41 : decode cX2_far 41 = .ok (.iload 4, 2) := by decide +kernel
theorem dX2_far_43 : decode cX2_far 43 = .ok (.ireturn, 1) := by decide +kernel
set_option maxRecDepth 20000 in
theorem ggX2_rings_X2_step : GoodIn wsX2_rings wsX2_step := goodIn_r _ [5, 6, 7, 8, 13, 14, 15, 16, 17, 18] (by decide +kernel) (by decide +kernel)
set_option maxRecDepth 20000 in
theorem gX2_rings_X2_step : GoodIn wsX2_rings (wsV RX2 55 RX2 yX2_step wsX2_step) := goodIn_app (goodIn_of _ (by decide +kernel)) ggX2_rings_X2_step
set_option maxRecDepth 20000 in
theorem ggX2_rings_X2_all : GoodIn wsX2_rings wsX2_all := goodIn_r _ [12, 1, 2, 3, 4, 5, 6, 7, 8, 13, 14, 15, 16, 17, 18] (by decide +kernel) (by decide +kernel)
set_option maxRecDepth 20000 in
theorem gX2_rings_X2_all : GoodIn wsX2_rings (wsV RX2 58 RX2 yX2_all wsX2_all) := goodIn_app (goodIn_of _ (by decide +kernel)) ggX2_rings_X2_all
theorem dX2_rings_0 : decode cX2_rings 0 = .ok (.aload_n 0, 1) := by decide +kernel
theorem dX2_rings_1 : decode cX2_rings 1 = .ok (.aload_n 0, 1) := by decide +kernel
theorem dX2_rings_2 : decode cX2_rings 2 = .ok (.iconst 1, 1) := by decide +kernel
theorem dX2_rings_3 : decode cX2_rings 3 = .ok (.iload_n 1, 1) := by decide +kernel
theorem dX2_rings_4 : decode cX2_rings 4 = .ok (.ishl, 1) := by decide +kernel
theorem dX2_rings_5 : decode cX2_rings 5 = .ok (.invokevirtual 55, 3) := by decide +kernel
theorem dX2_rings_8 : decode cX2_rings 8 = .ok (.invokevirtual 58, 3) := by decide +kernel
theorem dX2_rings_11 : decode cX2_rings 11 = .ok (.iload_n 1, 1) := by decide +kernel
theorem dX2_rings_12 : decode cX2_rings 12 = .ok (.ishr, 1) := by decide +kernel
theorem dX2_rings_13 : decode cX2_rings 13 = .ok (.iconst 1, 1) := by decide +kernel
theorem dX2_rings_14 : decode cX2_rings 14 = .ok (.iand, 1) := by decide +kernel
theorem dX2_rings_15 : decode cX2_rings 15 = .ok (.iconst 1, 1) := by decide +kernel
theorem dX2_rings_16 : decode cX2_rings 16 = .ok (.if_icmp .ne 7, 3) := by decide +kernel
theorem dX2_rings_19 : decode cX2_rings 19 = .ok (.iconst 1, 1) := by decide +kernel
theorem dX2_rings_20 : decode cX2_rings 20 = .ok (.goto 4, 3) := by decide +kernel
theorem dX2_rings_23 : decode cX2_rings 23 = .ok (.iconst 0, 1) := by decide +kernel
theorem dX2_rings_24 : decode cX2_rings 24 = .ok (.ireturn, 1) := by decide +kernel
set_option maxRecDepth 20000 in
theorem ggX2_alone_X2_step : GoodIn wsX2_alone wsX2_step := goodIn_r _ [6, 1, 7, 8, 16, 17, 18, 19, 20, 21] (by decide +kernel) (by decide +kernel)
set_option maxRecDepth 20000 in
theorem gX2_alone_X2_step : GoodIn wsX2_alone (wsV RX2 55 RX2 yX2_step wsX2_step) := goodIn_app (goodIn_of _ (by decide +kernel)) ggX2_alone_X2_step
set_option maxRecDepth 20000 in
theorem ggX2_alone_J6_bitCount_0f7a4 : GoodIn wsX2_alone wsJ6_bitCount_0f7a4 := goodIn_r _ [12, 13, 14, 15] (by decide +kernel) (by decide +kernel)
set_option maxRecDepth 20000 in
theorem gX2_alone_J6_bitCount_0f7a4 : GoodIn wsX2_alone (va_wsS RX2 61 yJ6_bitCount_0f7a4 wsJ6_bitCount_0f7a4) := goodIn_app (goodIn_of _ (by decide +kernel)) ggX2_alone_J6_bitCount_0f7a4
theorem dX2_alone_0 : decode cX2_alone 0 = .ok (.iconst 0, 1) := by decide +kernel
theorem dX2_alone_1 : decode cX2_alone 1 = .ok (.istore_n 1, 1) := by decide +kernel
theorem dX2_alone_2 : decode cX2_alone 2 = .ok (.iconst 0, 1) := by decide +kernel
theorem dX2_alone_3 : decode cX2_alone 3 = .ok (.istore_n 2, 1) := by decide +kernel
theorem dX2_alone_4 : decode cX2_alone 4 = .ok (.iload_n 2, 1) := by decide +kernel
theorem dX2_alone_5 : decode cX2_alone 5 = .ok (.aload_n 0, 1) := by decide +kernel
theorem dX2_alone_6 : decode cX2_alone 6 = .ok (.getfield 27, 3) := by decide +kernel
theorem dX2_alone_9 : decode cX2_alone 9 = .ok (.if_icmp .ge 19, 3) := by decide +kernel
theorem dX2_alone_12 : decode cX2_alone 12 = .ok (.iload_n 1, 1) := by decide +kernel
theorem dX2_alone_13 : decode cX2_alone 13 = .ok (.aload_n 0, 1) := by decide +kernel
theorem dX2_alone_14 : decode cX2_alone 14 = .ok (.iconst 1, 1) := by decide +kernel
theorem dX2_alone_15 : decode cX2_alone 15 = .ok (.iload_n 2, 1) := by decide +kernel
theorem dX2_alone_16 : decode cX2_alone 16 = .ok (.ishl, 1) := by decide +kernel
theorem dX2_alone_17 : decode cX2_alone 17 = .ok (.invokevirtual 55, 3) := by decide +kernel
theorem dX2_alone_20 : decode cX2_alone 20 = .ok (.ior, 1) := by decide +kernel
theorem dX2_alone_21 : decode cX2_alone 21 = .ok (.istore_n 1, 1) := by decide +kernel
theorem dX2_alone_22 : decode cX2_alone 22 = .ok (.iinc 2 1, 3) := by decide +kernel
theorem dX2_alone_25 : decode cX2_alone 25 = .ok (.goto (-21), 3) := by decide +kernel
theorem dX2_alone_28 : decode cX2_alone 28 = .ok (.aload_n 0, 1) := by decide +kernel
theorem dX2_alone_29 : decode cX2_alone 29 = .ok (.getfield 27, 3) := by decide +kernel
theorem dX2_alone_32 : decode cX2_alone 32 = .ok (.iload_n 1, 1) := by decide +kernel
theorem dX2_alone_33 : decode cX2_alone 33 = .ok (.invokestatic 61, 3) := by decide +kernel
theorem dX2_alone_36 : decode cX2_alone 36 = .ok (.isub, 1) := by decide +kernel
theorem dX2_alone_37 : decode cX2_alone 37 = .ok (.ireturn, 1) := by decide +kernel
