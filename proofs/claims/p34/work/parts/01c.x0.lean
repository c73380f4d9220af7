theorem dX0_init_0 : decode cX0_init 0 = .ok (.aload_n 0, 1) := by decide +kernel
theorem dX0_init_1 : decode cX0_init 1 = .ok (.invokespecial 3, 3) := by decide +kernel
theorem dX0_init_4 : decode cX0_init 4 = .ok (.aload_n 0, 1) := by decide +kernel
theorem dX0_init_5 : decode cX0_init 5 = .ok (.bipush 16, 2) := by decide +kernel
theorem dX0_init_7 : decode cX0_init 7 = .ok (.newarray .int, 2) := by decide +kernel
theorem dX0_init_9 : decode cX0_init 9 = .ok (.putfield 9, 3) := by decide +kernel
theorem dX0_init_12 : decode cX0_init 12 = .ok (.aload_n 0, 1) := by decide +kernel
theorem dX0_init_13 : decode cX0_init 13 = .ok (.bipush 16, 2) := by decide +kernel
theorem dX0_init_15 : decode cX0_init 15 = .ok (.newarray .int, 2) := by decide +kernel
theorem dX0_init_17 : decode cX0_init 17 = .ok (.putfield 15, 3) := by decide +kernel
theorem dX0_init_20 : decode cX0_init 20 = .ok (.aload_n 0, 1) := by decide +kernel
theorem dX0_init_21 : decode cX0_init 21 = .ok (.iconst 0, 1) := by decide +kernel
theorem dX0_init_22 : decode cX0_init 22 = .ok (.putfield 18, 3) := by decide +kernel
theorem dX0_init_25 : decode cX0_init 25 = .ok (.return_, 1) := by decide +kernel
theorem dX0_count_0 : decode cX0_count 0 = .ok (.aload_n 0, 1) := by decide +kernel
theorem dX0_count_1 : decode cX0_count 1 = .ok (.getfield 18, 3) := by decide +kernel
theorem dX0_count_4 : decode cX0_count 4 = .ok (.ireturn, 1) := by decide +kernel
theorem dX0_first_0 : decode cX0_first 0 = .ok (.iload_n 1, 1) := by decide +kernel
theorem dX0_first_1 : decode cX0_first 1 = .ok (.ifCond .lt 20, 3) := by decide +kernel
theorem dX0_first_4 : decode cX0_first 4 = .ok (.iload_n 1, 1) := by decide +kernel
theorem dX0_first_5 : decode cX0_first 5 = .ok (.aload_n 0, 1) := by decide +kernel
theorem dX0_first_6 : decode cX0_first 6 = .ok (.getfield 18, 3) := by decide +kernel
theorem dX0_first_9 : decode cX0_first 9 = .ok (.if_icmp .ge 12, 3) := by decide +kernel
theorem dX0_first_12 : decode cX0_first 12 = .ok (.aload_n 0, 1) := by decide +kernel
theorem dX0_first_13 : decode cX0_first 13 = .ok (.getfield 9, 3) := by decide +kernel
theorem dX0_first_16 : decode cX0_first 16 = .ok (.iload_n 1, 1) := by decide +kernel
theorem dX0_first_17 : decode cX0_first 17 = .ok (.iaload, 1) := by decide +kernel
theorem dX0_first_18 : decode cX0_first 18 = .ok (.goto 4, 3) := by decide +kernel
theorem dX0_first_21 : decode cX0_first 21 = .ok (.iconst 0, 1) := by decide +kernel
theorem dX0_first_22 : decode cX0_first 22 = .ok (.ireturn, 1) := by decide +kernel
theorem dX0_last_0 : decode cX0_last 0 = .ok (.iload_n 1, 1) := by decide +kernel
theorem dX0_last_1 : decode cX0_last 1 = .ok (.ifCond .lt 20, 3) := by decide +kernel
theorem dX0_last_4 : decode cX0_last 4 = .ok (.iload_n 1, 1) := by decide +kernel
theorem dX0_last_5 : decode cX0_last 5 = .ok (.aload_n 0, 1) := by decide +kernel
theorem dX0_last_6 : decode cX0_last 6 = .ok (.getfield 18, 3) := by decide +kernel
theorem dX0_last_9 : decode cX0_last 9 = .ok (.if_icmp .ge 12, 3) := by decide +kernel
theorem dX0_last_12 : decode cX0_last 12 = .ok (.aload_n 0, 1) := by decide +kernel
theorem dX0_last_13 : decode cX0_last 13 = .ok (.getfield 15, 3) := by decide +kernel
theorem dX0_last_16 : decode cX0_last 16 = .ok (.iload_n 1, 1) := by decide +kernel
theorem dX0_last_17 : decode cX0_last 17 = .ok (.iaload, 1) := by decide +kernel
theorem dX0_last_18 : decode cX0_last 18 = .ok (.goto 4, 3) := by decide +kernel
theorem dX0_last_21 : decode cX0_last 21 = .ok (.iconst 0, 1) := by decide +kernel
theorem dX0_last_22 : decode cX0_last 22 = .ok (.ireturn, 1) := by decide +kernel
theorem dX0_pages_0 : decode cX0_pages 0 = .ok (.iconst 0, 1) := by decide +kernel
theorem dX0_pages_1 : decode cX0_pages 1 = .ok (.istore_n 1, 1) := by decide +kernel
theorem dX0_pages_2 : decode cX0_pages 2 = .ok (.iconst 0, 1) := by decide +kernel
theorem dX0_pages_3 : decode cX0_pages 3 = .ok (.istore_n 2, 1) := by decide +kernel
theorem dX0_pages_4 : decode cX0_pages 4 = .ok (.iload_n 2, 1) := by decide +kernel
theorem dX0_pages_5 : decode cX0_pages 5 = .ok (.aload_n 0, 1) := by decide +kernel
theorem dX0_pages_6 : decode cX0_pages 6 = .ok (.getfield 18, 3) := by decide +kernel
theorem dX0_pages_9 : decode cX0_pages 9 = .ok (.if_icmp .ge 27, 3) := by decide +kernel
theorem dX0_pages_12 : decode cX0_pages 12 = .ok (.iload_n 1, 1) := by decide +kernel
theorem dX0_pages_13 : decode cX0_pages 13 = .ok (.aload_n 0, 1) := by decide +kernel
theorem dX0_pages_14 : decode cX0_pages 14 = .ok (.getfield 15, 3) := by decide +kernel
theorem dX0_pages_17 : decode cX0_pages 17 = .ok (.iload_n 2, 1) := by decide +kernel
theorem dX0_pages_18 : decode cX0_pages 18 = .ok (.iaload, 1) := by decide +kernel
theorem dX0_pages_19 : decode cX0_pages 19 = .ok (.aload_n 0, 1) := by decide +kernel
theorem dX0_pages_20 : decode cX0_pages 20 = .ok (.getfield 9, 3) := by decide +kernel
theorem dX0_pages_23 : decode cX0_pages 23 = .ok (.iload_n 2, 1) := by decide +kernel
theorem dX0_pages_24 : decode cX0_pages 24 = .ok (.iaload, 1) := by decide +kernel
theorem dX0_pages_25 : decode cX0_pages 25 = .ok (.isub, 1) := by decide +kernel
theorem dX0_pages_26 : decode cX0_pages 26 = .ok (.iconst 1, 1) := by decide +kernel
theorem dX0_pages_27 : decode cX0_pages 27 = .ok (.iadd, 1) := by decide +kernel
theorem dX0_pages_28 : decode cX0_pages 28 = .ok (.iadd, 1) := by decide +kernel
theorem dX0_pages_29 : decode cX0_pages 29 = .ok (.istore_n 1, 1) := by decide +kernel
theorem dX0_pages_30 : decode cX0_pages 30 = .ok (.iinc 2 1, 3) := by decide +kernel
theorem dX0_pages_33 : decode cX0_pages 33 = .ok (.goto (-29), 3) := by decide +kernel
theorem dX0_pages_36 : decode cX0_pages 36 = .ok (.iload_n 1, 1) := by decide +kernel
theorem dX0_pages_37 : decode cX0_pages 37 = .ok (.ireturn, 1) := by decide +kernel
theorem dX0_has_0 : decode cX0_has 0 = .ok (.iconst 0, 1) := by decide +kernel
theorem dX0_has_1 : decode cX0_has 1 = .ok (.istore_n 2, 1) := by decide +kernel
theorem dX0_has_2 : decode cX0_has 2 = .ok (.iload_n 2, 1) := by decide +kernel
theorem dX0_has_3 : decode cX0_has 3 = .ok (.aload_n 0, 1) := by decide +kernel
theorem dX0_has_4 : decode cX0_has 4 = .ok (.getfield 18, 3) := by decide +kernel
theorem dX0_has_7 : decode cX0_has 7 = .ok (.if_icmp .ge 31, 3) := by decide +kernel
theorem dX0_has_10 : decode cX0_has 10 = .ok (.aload_n 0, 1) := by decide +kernel
theorem dX0_has_11 : decode cX0_has 11 = .ok (.getfield 9, 3) := by decide +kernel
theorem dX0_has_14 : decode cX0_has 14 = .ok (.iload_n 2, 1) := by decide +kernel
theorem dX0_has_15 : decode cX0_has 15 = .ok (.iaload, 1) := by decide +kernel
theorem dX0_has_16 : decode cX0_has 16 = .ok (.iload_n 1, 1) := by decide +kernel
theorem dX0_has_17 : decode cX0_has 17 = .ok (.if_icmp .gt 15, 3) := by decide +kernel
theorem dX0_has_20 : decode cX0_has 20 = .ok (.iload_n 1, 1) := by decide +kernel
theorem dX0_has_21 : decode cX0_has 21 = .ok (.aload_n 0, 1) := by decide +kernel
theorem dX0_has_22 : decode cX0_has 22 = .ok (.getfield 15, 3) := by decide +kernel
theorem dX0_has_25 : decode cX0_has 25 = .ok (.iload_n 2, 1) := by decide +kernel
theorem dX0_has_26 : decode cX0_has 26 = .ok (.iaload, 1) := by decide +kernel
theorem dX0_has_27 : decode cX0_has 27 = .ok (.if_icmp .gt 5, 3) := by decide +kernel
theorem dX0_has_30 : decode cX0_has 30 = .ok (.iconst 1, 1) := by decide +kernel
theorem dX0_has_31 : decode cX0_has 31 = .ok (.ireturn, 1) := by decide +kernel
theorem dX0_has_32 : decode cX0_has 32 = .ok (.iinc 2 1, 3) := by decide +kernel
theorem dX0_has_35 : decode cX0_has 35 = .ok (.goto (-33), 3) := by decide +kernel
theorem dX0_has_38 : decode cX0_has 38 = .ok (.iconst 0, 1) := by decide +kernel
theorem dX0_has_39 : decode cX0_has 39 = .ok (.ireturn, 1) := by decide +kernel
theorem dX0_pagesInCommon_0 : decode cX0_pagesInCommon 0 = .ok (.iconst 0, 1) := by decide +kernel
theorem dX0_pagesInCommon_1 : decode cX0_pagesInCommon 1 = .ok (.istore_n 2, 1) := by decide +kernel
theorem dX0_pagesInCommon_2 : decode cX0_pagesInCommon 2 = .ok (.iconst 0, 1) := by decide +kernel
theorem dX0_pagesInCommon_3 : decode cX0_pagesInCommon 3 = .ok (.istore_n 3, 1) := by decide +kernel
theorem dX0_pagesInCommon_4 : decode cX0_pagesInCommon 4 = .ok (.iconst 0, 1) := by decide +kernel
theorem dX0_pagesInCommon_5 : decode cX0_pagesInCommon 5 = .ok (.istore 4, 2) := by decide +kernel
theorem dX0_pagesInCommon_7 : decode cX0_pagesInCommon 7 = .ok (.aload_n 0, 1) := by decide +kernel
theorem dX0_pagesInCommon_8 : decode cX0_pagesInCommon 8 = .ok (.getfield 18, 3) := by decide +kernel
theorem dX0_pagesInCommon_11 : decode cX0_pagesInCommon 11 = .ok (.aload_n 1, 1) := by decide +kernel
theorem dX0_pagesInCommon_12 : decode cX0_pagesInCommon 12 = .ok (.getfield 18, 3) := by decide +kernel
theorem dX0_pagesInCommon_15 : decode cX0_pagesInCommon 15 = .ok (.iadd, 1) := by decide +kernel
theorem dX0_pagesInCommon_16 : decode cX0_pagesInCommon 16 = .ok (.istore 5, 2) := by decide +kernel
theorem dX0_pagesInCommon_18 : decode cX0_pagesInCommon 18 = .ok (.iload 5, 2) := by decide +kernel
theorem dX0_pagesInCommon_20 : decode cX0_pagesInCommon 20 = .ok (.ifCond .le 101, 3) := by decide +kernel
theorem dX0_pagesInCommon_23 : decode cX0_pagesInCommon 23 = .ok (.iload_n 3, 1) := by decide +kernel
theorem dX0_pagesInCommon_24 : decode cX0_pagesInCommon 24 = .ok (.aload_n 0, 1) := by decide +kernel
theorem dX0_pagesInCommon_25 : decode cX0_pagesInCommon 25 = .ok (.getfield 18, 3) := by decide +kernel
theorem dX0_pagesInCommon_28 : decode cX0_pagesInCommon 28 = .ok (.if_icmp .ge 93, 3) := by decide +kernel
theorem dX0_pagesInCommon_31 : decode cX0_pagesInCommon 31 = .ok (.iload 4, 2) := by decide +kernel
theorem dX0_pagesInCommon_33 : decode cX0_pagesInCommon 33 = .ok (.aload_n 1, 1) := by decide +kernel
theorem dX0_pagesInCommon_34 : decode cX0_pagesInCommon 34 = .ok (.getfield 18, 3) := by decide +kernel
theorem dX0_pagesInCommon_37 : decode cX0_pagesInCommon 37 = .ok (.if_icmp .ge 84, 3) := by decide +kernel
theorem dX0_pagesInCommon_40 : decode cX0_pagesInCommon 40 = .ok (.aload_n 0, 1) := by decide +kernel
theorem dX0_pagesInCommon_41 : decode cX0_pagesInCommon 41 = .ok (.getfield 9, 3) := by decide +kernel
theorem dX0_pagesInCommon_44 : decode cX0_pagesInCommon 44 = .ok (.iload_n 3, 1) := by decide +kernel
theorem dX0_pagesInCommon_45 : decode cX0_pagesInCommon 45 = .ok (.iaload, 1) := by decide +kernel
theorem dX0_pagesInCommon_46 : decode cX0_pagesInCommon 46 = .ok (.aload_n 1, 1) := by decide +kernel
theorem dX0_pagesInCommon_47 : decode cX0_pagesInCommon 47 = .ok (.getfield 9, 3) := by decide +kernel
theorem dX0_pagesInCommon_50 : decode cX0_pagesInCommon 50 = .ok (.iload 4, 2) := by decide +kernel
theorem dX0_pagesInCommon_52 : decode cX0_pagesInCommon 52 = .ok (.iaload, 1) := by decide +kernel
theorem dX0_pagesInCommon_53 : decode cX0_pagesInCommon 53 = .ok (.invokestatic 22, 3) := by decide +kernel
theorem dX0_pagesInCommon_56 : decode cX0_pagesInCommon 56 = .ok (.istore 6, 2) := by decide +kernel
theorem dX0_pagesInCommon_58 : decode cX0_pagesInCommon 58 = .ok (.aload_n 0, 1) := by decide +kernel
theorem dX0_pagesInCommon_59 : decode cX0_pagesInCommon 59 = .ok (.getfield 15, 3) := by decide +kernel
theorem dX0_pagesInCommon_62 : decode cX0_pagesInCommon 62 = .ok (.iload_n 3, 1) := by decide +kernel
theorem dX0_pagesInCommon_63 : decode cX0_pagesInCommon 63 = .ok (.iaload, 1) := by decide +kernel
theorem dX0_pagesInCommon_64 : decode cX0_pagesInCommon 64 = .ok (.aload_n 1, 1) := by decide +kernel
theorem dX0_pagesInCommon_65 : decode cX0_pagesInCommon 65 = .ok (.getfield 15, 3) := by decide +kernel
theorem dX0_pagesInCommon_68 : decode cX0_pagesInCommon 68 = .ok (.iload 4, 2) := by decide +kernel
theorem dX0_pagesInCommon_70 : decode cX0_pagesInCommon 70 = .ok (.iaload, 1) := by decide +kernel
theorem dX0_pagesInCommon_71 : decode cX0_pagesInCommon 71 = .ok (.invokestatic 28, 3) := by decide +kernel
theorem dX0_pagesInCommon_74 : decode cX0_pagesInCommon 74 = .ok (.istore 7, 2) := by decide +kernel
theorem dX0_pagesInCommon_76 : decode cX0_pagesInCommon 76 = .ok (.iload_n 2, 1) := by decide +kernel
theorem dX0_pagesInCommon_77 : decode cX0_pagesInCommon 77 = .ok (.iconst 0, 1) := by decide +kernel
theorem dX0_pagesInCommon_78 : decode cX0_pagesInCommon 78 = .ok (.iload 7, 2) := by decide +kernel
theorem dX0_pagesInCommon_80 : decode cX0_pagesInCommon 80 = .ok (.iload 6, 2) := by decide +kernel
theorem dX0_pagesInCommon_82 : decode cX0_pagesInCommon 82 = .ok (.isub, 1) := by decide +kernel
theorem dX0_pagesInCommon_83 : decode cX0_pagesInCommon 83 = .ok (.iconst 1, 1) := by decide +kernel
theorem dX0_pagesInCommon_84 : decode cX0_pagesInCommon 84 = .ok (.iadd, 1) := by decide +kernel
theorem dX0_pagesInCommon_85 : decode cX0_pagesInCommon 85 = .ok (.invokestatic 22, 3) := by decide +kernel
theorem dX0_pagesInCommon_88 : decode cX0_pagesInCommon 88 = .ok (.iadd, 1) := by decide +kernel
theorem dX0_pagesInCommon_89 : decode cX0_pagesInCommon 89 = .ok (.istore_n 2, 1) := by decide +kernel
theorem dX0_pagesInCommon_90 : decode cX0_pagesInCommon 90 = .ok (.aload_n 0, 1) := by decide +kernel
theorem dX0_pagesInCommon_91 : decode cX0_pagesInCommon 91 = .ok (.getfield 15, 3) := by decide +kernel
theorem dX0_pagesInCommon_94 : decode cX0_pagesInCommon 94 = .ok (.iload_n 3, 1) := by decide +kernel
theorem dX0_pagesInCommon_95 : decode cX0_pagesInCommon 95 = .ok (.iaload, 1) := by decide +kernel
theorem dX0_pagesInCommon_96 : decode cX0_pagesInCommon 96 = .ok (.aload_n 1, 1) := by decide +kernel
theorem dX0_pagesInCommon_97 : decode cX0_pagesInCommon 97 = .ok (.getfield 15, 3) := by decide +kernel
theorem dX0_pagesInCommon_100 : decode cX0_pagesInCommon 100 = .ok (.iload 4, 2) := by decide +kernel
theorem dX0_pagesInCommon_102 : decode cX0_pagesInCommon 102 = .ok (.iaload, 1) := by decide +kernel
theorem dX0_pagesInCommon_103 : decode cX0_pagesInCommon 103 = .ok (.if_icmp .gt 9, 3) := by decide +kernel
theorem dX0_pagesInCommon_106 : decode cX0_pagesInCommon 106 = .ok (.iinc 3 1, 3) := by decide +kernel
theorem dX0_pagesInCommon_109 : decode cX0_pagesInCommon 109 = .ok (.goto 6, 3) := by decide +kernel
theorem dX0_pagesInCommon_112 : decode cX0_pagesInCommon 112 = .ok (.iinc 4 1, 3) := by decide +kernel
theorem dX0_pagesInCommon_115 : decode cX0_pagesInCommon 115 = .ok (.iinc 5 (-1), 3) := by decide +kernel
theorem dX0_pagesInCommon_118 : decode cX0_pagesInCommon 118 = .ok (.goto (-100), 3) := by decide +kernel
theorem dX0_pagesInCommon_121 : decode cX0_pagesInCommon 121 = .ok (.iload_n 2, 1) := by decide +kernel
theorem dX0_pagesInCommon_122 : decode cX0_pagesInCommon 122 = .ok (.ireturn, 1) := by decide +kernel
theorem dX0_append_0 : decode cX0_append 0 = .ok (.aload_n 0, 1) := by decide +kernel
theorem dX0_append_1 : decode cX0_append 1 = .ok (.getfield 18, 3) := by decide +kernel
theorem dX0_append_4 : decode cX0_append 4 = .ok (.ifCond .le 51, 3) := by decide +kernel
theorem dX0_append_7 : decode cX0_append 7 = .ok (.iload_n 1, 1) := by decide +kernel
theorem dX0_append_8 : decode cX0_append 8 = .ok (.aload_n 0, 1) := by decide +kernel
theorem dX0_append_9 : decode cX0_append 9 = .ok (.getfield 15, 3) := by decide +kernel
theorem dX0_append_12 : decode cX0_append 12 = .ok (.aload_n 0, 1) := by decide +kernel
theorem dX0_append_13 : decode cX0_append 13 = .ok (.getfield 18, 3) := by decide +kernel
theorem dX0_append_16 : decode cX0_append 16 = .ok (.iconst 1, 1) := by decide +kernel
theorem dX0_append_17 : decode cX0_append 17 = .ok (.isub, 1) := by decide +kernel
theorem dX0_append_18 : decode cX0_append 18 = .ok (.iaload, 1) := by decide +kernel
theorem dX0_append_19 : decode cX0_append 19 = .ok (.isub, 1) := by decide +kernel
theorem dX0_append_20 : decode cX0_append 20 = .ok (.iconst 1, 1) := by decide +kernel
theorem dX0_append_21 : decode cX0_append 21 = .ok (.isub, 1) := by decide +kernel
theorem dX0_append_22 : decode cX0_append 22 = .ok (.iload_n 3, 1) := by decide +kernel
theorem dX0_append_23 : decode cX0_append 23 = .ok (.if_icmp .gt 32, 3) := by decide +kernel
theorem dX0_append_26 : decode cX0_append 26 = .ok (.aload_n 0, 1) := by decide +kernel
theorem dX0_append_27 : decode cX0_append 27 = .ok (.getfield 15, 3) := by decide +kernel
theorem dX0_append_30 : decode cX0_append 30 = .ok (.aload_n 0, 1) := by decide +kernel
theorem dX0_append_31 : decode cX0_append 31 = .ok (.getfield 18, 3) := by decide +kernel
theorem dX0_append_34 : decode cX0_append 34 = .ok (.iconst 1, 1) := by decide +kernel
theorem dX0_append_35 : decode cX0_append 35 = .ok (.isub, 1) := by decide +kernel
theorem dX0_append_36 : decode cX0_append 36 = .ok (.aload_n 0, 1) := by decide +kernel
theorem dX0_append_37 : decode cX0_append 37 = .ok (.getfield 15, 3) := by decide +kernel
theorem dX0_append_40 : decode cX0_append 40 = .ok (.aload_n 0, 1) := by decide +kernel
theorem dX0_append_41 : decode cX0_append 41 = .ok (.getfield 18, 3) := by decide +kernel
theorem dX0_append_44 : decode cX0_append 44 = .ok (.iconst 1, 1) := by decide +kernel
theorem dX0_append_45 : decode cX0_append 45 = .ok (.isub, 1) := by decide +kernel
theorem dX0_append_46 : decode cX0_append 46 = .ok (.iaload, 1) := by decide +kernel
theorem dX0_append_47 : decode cX0_append 47 = .ok (.iload_n 2, 1) := by decide +kernel
theorem dX0_append_48 : decode cX0_append 48 = .ok (.invokestatic 22, 3) := by decide +kernel
theorem dX0_append_51 : decode cX0_append 51 = .ok (.iastore, 1) := by decide +kernel
theorem dX0_append_52 : decode cX0_append 52 = .ok (.goto 42, 3) := by decide +kernel
theorem dX0_append_55 : decode cX0_append 55 = .ok (.aload_n 0, 1) := by decide +kernel
theorem dX0_append_56 : decode cX0_append 56 = .ok (.getfield 18, 3) := by decide +kernel
theorem dX0_append_59 : decode cX0_append 59 = .ok (.bipush 16, 2) := by decide +kernel
theorem dX0_append_61 : decode cX0_append 61 = .ok (.if_icmp .ge 33, 3) := by decide +kernel
theorem dX0_append_64 : decode cX0_append 64 = .ok (.aload_n 0, 1) := by decide +kernel
theorem dX0_append_65 : decode cX0_append 65 = .ok (.getfield 9, 3) := by decide +kernel
theorem dX0_append_68 : decode cX0_append 68 = .ok (.aload_n 0, 1) := by decide +kernel
theorem dX0_append_69 : decode cX0_append 69 = .ok (.getfield 18, 3) := by decide +kernel
theorem dX0_append_72 : decode cX0_append 72 = .ok (.iload_n 1, 1) := by decide +kernel
theorem dX0_append_73 : decode cX0_append 73 = .ok (.iastore, 1) := by decide +kernel
theorem dX0_append_74 : decode cX0_append 74 = .ok (.aload_n 0, 1) := by decide +kernel
theorem dX0_append_75 : decode cX0_append 75 = .ok (.getfield 15, 3) := by decide +kernel
theorem dX0_append_78 : decode cX0_append 78 = .ok (.aload_n 0, 1) := by decide +kernel
theorem dX0_append_79 : decode cX0_append 79 = .ok (.getfield 18, 3) := by decide +kernel
theorem dX0_append_82 : decode cX0_append 82 = .ok (.iload_n 2, 1) := by decide +kernel
theorem dX0_append_83 : decode cX0_append 83 = .ok (.iastore, 1) := by decide +kernel
theorem dX0_append_84 : decode cX0_append 84 = .ok (.aload_n 0, 1) := by decide +kernel
theorem dX0_append_85 : decode cX0_append 85 = .ok (.dup, 1) := by decide +kernel
theorem dX0_append_86 : decode cX0_append 86 = .ok (.getfield 18, 3) := by decide +kernel
theorem dX0_append_89 : decode cX0_append 89 = .ok (.iconst 1, 1) := by decide +kernel
theorem dX0_append_90 : decode cX0_append 90 = .ok (.iadd, 1) := by decide +kernel
theorem dX0_append_91 : decode cX0_append 91 = .ok (.putfield 18, 3) := by decide +kernel
theorem dX0_append_94 : decode cX0_append 94 = .ok (.return_, 1) := by decide +kernel
theorem dX0_becomeOne_0 : decode cX0_becomeOne 0 = .ok (.aload_n 0, 1) := by decide +kernel
theorem dX0_becomeOne_1 : decode cX0_becomeOne 1 = .ok (.iconst 0, 1) := by decide +kernel
theorem dX0_becomeOne_2 : decode cX0_becomeOne 2 = .ok (.putfield 18, 3) := by decide +kernel
theorem dX0_becomeOne_5 : decode cX0_becomeOne 5 = .ok (.aload_n 0, 1) := by decide +kernel
theorem dX0_becomeOne_6 : decode cX0_becomeOne 6 = .ok (.iload_n 1, 1) := by decide +kernel
theorem dX0_becomeOne_7 : decode cX0_becomeOne 7 = .ok (.iload_n 2, 1) := by decide +kernel
theorem dX0_becomeOne_8 : decode cX0_becomeOne 8 = .ok (.iconst 0, 1) := by decide +kernel
theorem dX0_becomeOne_9 : decode cX0_becomeOne 9 = .ok (.invokevirtual 31, 3) := by decide +kernel
theorem dX0_becomeOne_12 : decode cX0_becomeOne 12 = .ok (.return_, 1) := by decide +kernel
theorem dX0_becomeSame_0 : decode cX0_becomeSame 0 = .ok (.aload_n 0, 1) := by decide +kernel
theorem dX0_becomeSame_1 : decode cX0_becomeSame 1 = .ok (.aload_n 1, 1) := by decide +kernel
theorem dX0_becomeSame_2 : decode cX0_becomeSame 2 = .ok (.iconst 0, 1) := by decide +kernel
theorem dX0_becomeSame_3 : decode cX0_becomeSame 3 = .ok (.invokevirtual 35, 3) := by decide +kernel
theorem dX0_becomeSame_6 : decode cX0_becomeSame 6 = .ok (.return_, 1) := by decide +kernel
theorem dX0_becomeBridged_0 : decode cX0_becomeBridged 0 = .ok (.aload_n 0, 1) := by decide +kernel
theorem dX0_becomeBridged_1 : decode cX0_becomeBridged 1 = .ok (.iconst 0, 1) := by decide +kernel
theorem dX0_becomeBridged_2 : decode cX0_becomeBridged 2 = .ok (.putfield 18, 3) := by decide +kernel
theorem dX0_becomeBridged_5 : decode cX0_becomeBridged 5 = .ok (.iconst 0, 1) := by decide +kernel
theorem dX0_becomeBridged_6 : decode cX0_becomeBridged 6 = .ok (.istore_n 3, 1) := by decide +kernel
theorem dX0_becomeBridged_7 : decode cX0_becomeBridged 7 = .ok (.iload_n 3, 1) := by decide +kernel
theorem dX0_becomeBridged_8 : decode cX0_becomeBridged 8 = .ok (.aload_n 1, 1) := by decide +kernel
theorem dX0_becomeBridged_9 : decode cX0_becomeBridged 9 = .ok (.getfield 18, 3) := by decide +kernel
theorem dX0_becomeBridged_12 : decode cX0_becomeBridged 12 = .ok (.if_icmp .ge 26, 3) := by decide +kernel
theorem dX0_becomeBridged_15 : decode cX0_becomeBridged 15 = .ok (.aload_n 0, 1) := by decide +kernel
theorem dX0_becomeBridged_16 : decode cX0_becomeBridged 16 = .ok (.aload_n 1, 1) := by decide +kernel
theorem dX0_becomeBridged_17 : decode cX0_becomeBridged 17 = .ok (.getfield 9, 3) := by decide +kernel
theorem dX0_becomeBridged_20 : decode cX0_becomeBridged 20 = .ok (.iload_n 3, 1) := by decide +kernel
theorem dX0_becomeBridged_21 : decode cX0_becomeBridged 21 = .ok (.iaload, 1) := by decide +kernel
theorem dX0_becomeBridged_22 : decode cX0_becomeBridged 22 = .ok (.aload_n 1, 1) := by decide +kernel
theorem dX0_becomeBridged_23 : decode cX0_becomeBridged 23 = .ok (.getfield 15, 3) := by decide +kernel
theorem dX0_becomeBridged_26 : decode cX0_becomeBridged 26 = .ok (.iload_n 3, 1) := by decide +kernel
theorem dX0_becomeBridged_27 : decode cX0_becomeBridged 27 = .ok (.iaload, 1) := by decide +kernel
theorem dX0_becomeBridged_28 : decode cX0_becomeBridged 28 = .ok (.iload_n 2, 1) := by decide +kernel
theorem dX0_becomeBridged_29 : decode cX0_becomeBridged 29 = .ok (.invokevirtual 31, 3) := by decide +kernel
theorem dX0_becomeBridged_32 : decode cX0_becomeBridged 32 = .ok (.iinc 3 1, 3) := by decide +kernel
theorem dX0_becomeBridged_35 : decode cX0_becomeBridged 35 = .ok (.goto (-28), 3) := by decide +kernel
theorem dX0_becomeBridged_38 : decode cX0_becomeBridged 38 = .ok (.return_, 1) := by decide +kernel
theorem dX0_becomeUnion_0 : decode cX0_becomeUnion 0 = .ok (.aload_n 0, 1) := by decide +kernel
theorem dX0_becomeUnion_1 : decode cX0_becomeUnion 1 = .ok (.iconst 0, 1) := by decide +kernel
theorem dX0_becomeUnion_2 : decode cX0_becomeUnion 2 = .ok (.putfield 18, 3) := by decide +kernel
theorem dX0_becomeUnion_5 : decode cX0_becomeUnion 5 = .ok (.iconst 0, 1) := by decide +kernel
theorem dX0_becomeUnion_6 : decode cX0_becomeUnion 6 = .ok (.istore_n 3, 1) := by decide +kernel
theorem dX0_becomeUnion_7 : decode cX0_becomeUnion 7 = .ok (.iconst 0, 1) := by decide +kernel
theorem dX0_becomeUnion_8 : decode cX0_becomeUnion 8 = .ok (.istore 4, 2) := by decide +kernel
theorem dX0_becomeUnion_10 : decode cX0_becomeUnion 10 = .ok (.aload_n 1, 1) := by decide +kernel
theorem dX0_becomeUnion_11 : decode cX0_becomeUnion 11 = .ok (.getfield 18, 3) := by decide +kernel
theorem dX0_becomeUnion_14 : decode cX0_becomeUnion 14 = .ok (.aload_n 2, 1) := by decide +kernel
theorem dX0_becomeUnion_15 : decode cX0_becomeUnion 15 = .ok (.getfield 18, 3) := by decide +kernel
theorem dX0_becomeUnion_18 : decode cX0_becomeUnion 18 = .ok (.iadd, 1) := by decide +kernel
theorem dX0_becomeUnion_19 : decode cX0_becomeUnion 19 = .ok (.istore 5, 2) := by decide +kernel
theorem dX0_becomeUnion_21 : decode cX0_becomeUnion 21 = .ok (.iload 5, 2) := by decide +kernel
theorem dX0_becomeUnion_23 : decode cX0_becomeUnion 23 = .ok (.ifCond .le 95, 3) := by decide +kernel
theorem dX0_becomeUnion_26 : decode cX0_becomeUnion 26 = .ok (.iload 4, 2) := by decide +kernel
theorem dX0_becomeUnion_28 : decode cX0_becomeUnion 28 = .ok (.aload_n 2, 1) := by decide +kernel
theorem dX0_becomeUnion_29 : decode cX0_becomeUnion 29 = .ok (.getfield 18, 3) := by decide +kernel
theorem dX0_becomeUnion_32 : decode cX0_becomeUnion 32 = .ok (.if_icmp .ge 27, 3) := by decide +kernel
theorem dX0_becomeUnion_35 : decode cX0_becomeUnion 35 = .ok (.iload_n 3, 1) := by decide +kernel
theorem dX0_becomeUnion_36 : decode cX0_becomeUnion 36 = .ok (.aload_n 1, 1) := by decide +kernel
theorem dX0_becomeUnion_37 : decode cX0_becomeUnion 37 = .ok (.getfield 18, 3) := by decide +kernel
theorem dX0_becomeUnion_40 : decode cX0_becomeUnion 40 = .ok (.if_icmp .ge 23, 3) := by decide +kernel
theorem dX0_becomeUnion_43 : decode cX0_becomeUnion 43 = .ok (.aload_n 1, 1) := by decide +kernel
theorem dX0_becomeUnion_44 : decode cX0_becomeUnion 44 = .ok (.getfield 9, 3) := by decide +kernel
theorem dX0_becomeUnion_47 : decode cX0_becomeUnion 47 = .ok (.iload_n 3, 1) := by decide +kernel
theorem dX0_becomeUnion_48 : decode cX0_becomeUnion 48 = .ok (.iaload, 1) := by decide +kernel
theorem dX0_becomeUnion_49 : decode cX0_becomeUnion 49 = .ok (.aload_n 2, 1) := by decide +kernel
theorem dX0_becomeUnion_50 : decode cX0_becomeUnion 50 = .ok (.getfield 9, 3) := by decide +kernel
theorem dX0_becomeUnion_53 : decode cX0_becomeUnion 53 = .ok (.iload 4, 2) := by decide +kernel
theorem dX0_becomeUnion_55 : decode cX0_becomeUnion 55 = .ok (.iaload, 1) := by decide +kernel
theorem dX0_becomeUnion_56 : decode cX0_becomeUnion 56 = .ok (.if_icmp .gt 7, 3) := by decide +kernel
theorem dX0_becomeUnion_59 : decode cX0_becomeUnion 59 = .ok (.iconst 1, 1) := by decide +kernel
theorem dX0_becomeUnion_60 : decode cX0_becomeUnion 60 = .ok (.goto 4, 3) := by decide +kernel
theorem dX0_becomeUnion_63 : decode cX0_becomeUnion 63 = .ok (.iconst 0, 1) := by decide +kernel
theorem dX0_becomeUnion_64 : decode cX0_becomeUnion 64 = .ok (.istore 6, 2) := by decide +kernel
theorem dX0_becomeUnion_66 : decode cX0_becomeUnion 66 = .ok (.iload 6, 2) := by decide +kernel
theorem dX0_becomeUnion_68 : decode cX0_becomeUnion 68 = .ok (.ifCond .eq 24, 3) := by decide +kernel
theorem dX0_becomeUnion_71 : decode cX0_becomeUnion 71 = .ok (.aload_n 0, 1) := by decide +kernel
theorem dX0_becomeUnion_72 : decode cX0_becomeUnion 72 = .ok (.aload_n 1, 1) := by decide +kernel
theorem dX0_becomeUnion_73 : decode cX0_becomeUnion 73 = .ok (.iload_n 3, 1) := by decide +kernel
theorem dX0_becomeUnion_74 : decode cX0_becomeUnion 74 = .ok (.invokevirtual 39, 3) := by decide +kernel
theorem dX0_becomeUnion_77 : decode cX0_becomeUnion 77 = .ok (.aload_n 1, 1) := by decide +kernel
theorem dX0_becomeUnion_78 : decode cX0_becomeUnion 78 = .ok (.iload_n 3, 1) := by decide +kernel
theorem dX0_becomeUnion_79 : decode cX0_becomeUnion 79 = .ok (.invokevirtual 43, 3) := by decide +kernel
theorem dX0_becomeUnion_82 : decode cX0_becomeUnion 82 = .ok (.iconst 0, 1) := by decide +kernel
theorem dX0_becomeUnion_83 : decode cX0_becomeUnion 83 = .ok (.invokevirtual 31, 3) := by decide +kernel
theorem dX0_becomeUnion_86 : decode cX0_becomeUnion 86 = .ok (.iinc 3 1, 3) := by decide +kernel
theorem dX0_becomeUnion_89 : decode cX0_becomeUnion 89 = .ok (.goto 23, 3) := by decide +kernel
theorem dX0_becomeUnion_92 : decode cX0_becomeUnion 92 = .ok (.aload_n 0, 1) := by decide +kernel
theorem dX0_becomeUnion_93 : decode cX0_becomeUnion 93 = .ok (.aload_n 2, 1) := by decide +kernel
theorem dX0_becomeUnion_94 : decode cX0_becomeUnion 94 = .ok (.iload 4, 2) := by decide +kernel
theorem dX0_becomeUnion_96 : decode cX0_becomeUnion 96 = .ok (.invokevirtual 39, 3) := by decide +kernel
theorem dX0_becomeUnion_99 : decode cX0_becomeUnion 99 = .ok (.aload_n 2, 1) := by decide +kernel
theorem dX0_becomeUnion_100 : decode cX0_becomeUnion 100 = .ok (.iload 4, 2) := by decide +kernel
theorem dX0_becomeUnion_102 : decode cX0_becomeUnion 102 = .ok (.invokevirtual 43, 3) := by decide +kernel
theorem dX0_becomeUnion_105 : decode cX0_becomeUnion 105 = .ok (.iconst 0, 1) := by decide +kernel
theorem dX0_becomeUnion_106 : decode cX0_becomeUnion 106 = .ok (.invokevirtual 31, 3) := by decide +kernel
theorem dX0_becomeUnion_109 : decode cX0_becomeUnion 109 = .ok (.iinc 4 1, 3) := by decide +kernel
theorem dX0_becomeUnion_112 : decode cX0_becomeUnion 112 = .ok (.iinc 5 (-1), 3) := by decide +kernel
theorem dX0_becomeUnion_115 : decode cX0_becomeUnion 115 = .ok (.goto (-94), 3) := by decide +kernel
theorem dX0_becomeUnion_118 : decode cX0_becomeUnion 118 = .ok (.return_, 1) := by decide +kernel
theorem dX0_becomeRest_0 : decode cX0_becomeRest 0 = .ok (.aload_n 0, 1) := by decide +kernel
theorem dX0_becomeRest_1 : decode cX0_becomeRest 1 = .ok (.iconst 0, 1) := by decide +kernel
theorem dX0_becomeRest_2 : decode cX0_becomeRest 2 = .ok (.putfield 18, 3) := by decide +kernel
theorem dX0_becomeRest_5 : decode cX0_becomeRest 5 = .ok (.iconst 0, 1) := by decide +kernel
theorem dX0_becomeRest_6 : decode cX0_becomeRest 6 = .ok (.istore 4, 2) := by decide +kernel
theorem dX0_becomeRest_8 : decode cX0_becomeRest 8 = .ok (.iload 4, 2) := by decide +kernel
theorem dX0_becomeRest_10 : decode cX0_becomeRest 10 = .ok (.aload_n 1, 1) := by decide +kernel
theorem dX0_becomeRest_11 : decode cX0_becomeRest 11 = .ok (.getfield 18, 3) := by decide +kernel
theorem dX0_becomeRest_14 : decode cX0_becomeRest 14 = .ok (.if_icmp .ge 57, 3) := by decide +kernel
theorem dX0_becomeRest_17 : decode cX0_becomeRest 17 = .ok (.aload_n 0, 1) := by decide +kernel
theorem dX0_becomeRest_18 : decode cX0_becomeRest 18 = .ok (.aload_n 1, 1) := by decide +kernel
theorem dX0_becomeRest_19 : decode cX0_becomeRest 19 = .ok (.getfield 9, 3) := by decide +kernel
theorem dX0_becomeRest_22 : decode cX0_becomeRest 22 = .ok (.iload 4, 2) := by decide +kernel
theorem dX0_becomeRest_24 : decode cX0_becomeRest 24 = .ok (.iaload, 1) := by decide +kernel
theorem dX0_becomeRest_25 : decode cX0_becomeRest 25 = .ok (.aload_n 1, 1) := by decide +kernel
theorem dX0_becomeRest_26 : decode cX0_becomeRest 26 = .ok (.getfield 15, 3) := by decide +kernel
theorem dX0_becomeRest_29 : decode cX0_becomeRest 29 = .ok (.iload 4, 2) := by decide +kernel
theorem dX0_becomeRest_31 : decode cX0_becomeRest 31 = .ok (.iaload, 1) := by decide +kernel
theorem dX0_becomeRest_32 : decode cX0_becomeRest 32 = .ok (.iload_n 2, 1) := by decide +kernel
theorem dX0_becomeRest_33 : decode cX0_becomeRest 33 = .ok (.iconst 1, 1) := by decide +kernel
theorem dX0_becomeRest_34 : decode cX0_becomeRest 34 = .ok (.isub, 1) := by decide +kernel
theorem dX0_becomeRest_35 : decode cX0_becomeRest 35 = .ok (.invokestatic 28, 3) := by decide +kernel
theorem dX0_becomeRest_38 : decode cX0_becomeRest 38 = .ok (.invokevirtual 46, 3) := by decide +kernel
theorem dX0_becomeRest_41 : decode cX0_becomeRest 41 = .ok (.aload_n 0, 1) := by decide +kernel
theorem dX0_becomeRest_42 : decode cX0_becomeRest 42 = .ok (.aload_n 1, 1) := by decide +kernel
theorem dX0_becomeRest_43 : decode cX0_becomeRest 43 = .ok (.getfield 9, 3) := by decide +kernel
theorem dX0_becomeRest_46 : decode cX0_becomeRest 46 = .ok (.iload 4, 2) := by decide +kernel
theorem dX0_becomeRest_48 : decode cX0_becomeRest 48 = .ok (.iaload, 1) := by decide +kernel
theorem dX0_becomeRest_49 : decode cX0_becomeRest 49 = .ok (.iload_n 3, 1) := by decide +kernel
theorem dX0_becomeRest_50 : decode cX0_becomeRest 50 = .ok (.iconst 1, 1) := by decide +kernel
theorem dX0_becomeRest_51 : decode cX0_becomeRest 51 = .ok (.iadd, 1) := by decide +kernel
theorem dX0_becomeRest_52 : decode cX0_becomeRest 52 = .ok (.invokestatic 22, 3) := by decide +kernel
theorem dX0_becomeRest_55 : decode cX0_becomeRest 55 = .ok (.aload_n 1, 1) := by decide +kernel
theorem dX0_becomeRest_56 : decode cX0_becomeRest 56 = .ok (.getfield 15, 3) := by decide +kernel
theorem dX0_becomeRest_59 : decode cX0_becomeRest 59 = .ok (.iload 4, 2) := by decide +kernel
theorem dX0_becomeRest_61 : decode cX0_becomeRest 61 = .ok (.iaload, 1) := by decide +kernel
theorem dX0_becomeRest_62 : decode cX0_becomeRest 62 = .ok (.invokevirtual 46, 3) := by decide +kernel
theorem dX0_becomeRest_65 : decode cX0_becomeRest 65 = .ok (.iinc 4 1, 3) := by decide +kernel
theorem dX0_becomeRest_68 : decode cX0_becomeRest 68 = .ok (.goto (-60), 3) := by decide +kernel
theorem dX0_becomeRest_71 : decode cX0_becomeRest 71 = .ok (.return_, 1) := by decide +kernel
theorem dX0_becomeWithoutPageOfBook_0 : decode cX0_becomeWithoutPageOfBook 0 = .ok (.aload_n 0, 1) := by decide +kernel
theorem dX0_becomeWithoutPageOfBook_1 : decode cX0_becomeWithoutPageOfBook 1 = .ok (.iconst 0, 1) := by decide +kernel
theorem dX0_becomeWithoutPageOfBook_2 : decode cX0_becomeWithoutPageOfBook 2 = .ok (.putfield 18, 3) := by decide +kernel
theorem dX0_becomeWithoutPageOfBook_5 : decode cX0_becomeWithoutPageOfBook 5 = .ok (.iconst 0, 1) := by decide +kernel
theorem dX0_becomeWithoutPageOfBook_6 : decode cX0_becomeWithoutPageOfBook 6 = .ok (.istore_n 3, 1) := by decide +kernel
theorem dX0_becomeWithoutPageOfBook_7 : decode cX0_becomeWithoutPageOfBook 7 = .ok (.iload_n 3, 1) := by decide +kernel
theorem dX0_becomeWithoutPageOfBook_8 : decode cX0_becomeWithoutPageOfBook 8 = .ok (.aload_n 1, 1) := by decide +kernel
theorem dX0_becomeWithoutPageOfBook_9 : decode cX0_becomeWithoutPageOfBook 9 = .ok (.getfield 18, 3) := by decide +kernel
theorem dX0_becomeWithoutPageOfBook_12 : decode cX0_becomeWithoutPageOfBook 12 = .ok (.if_icmp .ge 59, 3) := by decide +kernel
theorem dX0_becomeWithoutPageOfBook_15 : decode cX0_becomeWithoutPageOfBook 15 = .ok (.aload_n 1, 1) := by decide +kernel
theorem dX0_becomeWithoutPageOfBook_16 : decode cX0_becomeWithoutPageOfBook 16 = .ok (.getfield 9, 3) := by decide +kernel
theorem dX0_becomeWithoutPageOfBook_19 : decode cX0_becomeWithoutPageOfBook 19 = .ok (.iload_n 3, 1) := by decide +kernel
theorem dX0_becomeWithoutPageOfBook_20 : decode cX0_becomeWithoutPageOfBook 20 = .ok (.iaload, 1) := by decide +kernel
theorem dX0_becomeWithoutPageOfBook_21 : decode cX0_becomeWithoutPageOfBook 21 = .ok (.istore 4, 2) := by decide +kernel
theorem dX0_becomeWithoutPageOfBook_23 : decode cX0_becomeWithoutPageOfBook 23 = .ok (.aload_n 1, 1) := by decide +kernel
theorem dX0_becomeWithoutPageOfBook_24 : decode cX0_becomeWithoutPageOfBook 24 = .ok (.getfield 15, 3) := by decide +kernel
theorem dX0_becomeWithoutPageOfBook_27 : decode cX0_becomeWithoutPageOfBook 27 = .ok (.iload_n 3, 1) := by decide +kernel
theorem dX0_becomeWithoutPageOfBook_28 : decode cX0_becomeWithoutPageOfBook 28 = .ok (.iaload, 1) := by decide +kernel
theorem dX0_becomeWithoutPageOfBook_29 : decode cX0_becomeWithoutPageOfBook 29 = .ok (.istore 5, 2) := by decide +kernel
theorem dX0_becomeWithoutPageOfBook_31 : decode cX0_becomeWithoutPageOfBook 31 = .ok (.aload_n 0, 1) := by decide +kernel
theorem dX0_becomeWithoutPageOfBook_32 : decode cX0_becomeWithoutPageOfBook 32 = .ok (.iload 4, 2) := by decide +kernel
theorem dX0_becomeWithoutPageOfBook_34 : decode cX0_becomeWithoutPageOfBook 34 = .ok (.iload_n 2, 1) := by decide +kernel
theorem dX0_becomeWithoutPageOfBook_35 : decode cX0_becomeWithoutPageOfBook 35 = .ok (.if_icmp .le 10, 3) := by decide +kernel
theorem dX0_becomeWithoutPageOfBook_38 : decode cX0_becomeWithoutPageOfBook 38 = .ok (.iload 4, 2) := by decide +kernel
theorem dX0_becomeWithoutPageOfBook_40 : decode cX0_becomeWithoutPageOfBook 40 = .ok (.iconst 1, 1) := by decide +kernel
theorem dX0_becomeWithoutPageOfBook_41 : decode cX0_becomeWithoutPageOfBook 41 = .ok (.isub, 1) := by decide +kernel
theorem dX0_becomeWithoutPageOfBook_42 : decode cX0_becomeWithoutPageOfBook 42 = .ok (.goto 5, 3) := by decide +kernel
theorem dX0_becomeWithoutPageOfBook_45 : decode cX0_becomeWithoutPageOfBook 45 = .ok (.iload 4, 2) := by decide +kernel
theorem dX0_becomeWithoutPageOfBook_47 : decode cX0_becomeWithoutPageOfBook 47 = .ok (.iload 5, 2) := by decide +kernel
theorem dX0_becomeWithoutPageOfBook_49 : decode cX0_becomeWithoutPageOfBook 49 = .ok (.iload_n 2, 1) := by decide +kernel
theorem dX0_becomeWithoutPageOfBook_50 : decode cX0_becomeWithoutPageOfBook 50 = .ok (.if_icmp .lt 10, 3) := by decide +kernel
theorem dX0_becomeWithoutPageOfBook_53 : decode cX0_becomeWithoutPageOfBook 53 = .ok (.iload 5, 2) := by decide +kernel
theorem dX0_becomeWithoutPageOfBook_55 : decode cX0_becomeWithoutPageOfBook 55 = .ok (.iconst 1, 1) := by decide +kernel
theorem dX0_becomeWithoutPageOfBook_56 : decode cX0_becomeWithoutPageOfBook 56 = .ok (.isub, 1) := by decide +kernel
theorem dX0_becomeWithoutPageOfBook_57 : decode cX0_becomeWithoutPageOfBook 57 = .ok (.goto 5, 3) := by decide +kernel
theorem dX0_becomeWithoutPageOfBook_60 : decode cX0_becomeWithoutPageOfBook 60 = .ok (.iload 5, 2) := by decide +kernel
theorem dX0_becomeWithoutPageOfBook_62 : decode cX0_becomeWithoutPageOfBook 62 = .ok (.invokevirtual 46, 3) := by decide +kernel
theorem dX0_becomeWithoutPageOfBook_65 : decode cX0_becomeWithoutPageOfBook 65 = .ok (.iinc 3 1, 3) := by decide +kernel
theorem dX0_becomeWithoutPageOfBook_68 : decode cX0_becomeWithoutPageOfBook 68 = .ok (.goto (-61), 3) := by decide +kernel
theorem dX0_becomeWithoutPageOfBook_71 : decode cX0_becomeWithoutPageOfBook 71 = .ok (.return_, 1) := by decide +kernel
theorem dX0_appendUnlessEmpty_0 : decode cX0_appendUnlessEmpty 0 = .ok (.iload_n 1, 1) := by decide +kernel
theorem dX0_appendUnlessEmpty_1 : decode cX0_appendUnlessEmpty 1 = .ok (.iload_n 2, 1) := by decide +kernel
theorem dX0_appendUnlessEmpty_2 : decode cX0_appendUnlessEmpty 2 = .ok (.if_icmp .gt 10, 3) := by decide +kernel
theorem dX0_appendUnlessEmpty_5 : decode cX0_appendUnlessEmpty 5 = .ok (.aload_n 0, 1) := by decide +kernel
theorem dX0_appendUnlessEmpty_6 : decode cX0_appendUnlessEmpty 6 = .ok (.iload_n 1, 1) := by decide +kernel
theorem dX0_appendUnlessEmpty_7 : decode cX0_appendUnlessEmpty 7 = .ok (.iload_n 2, 1) := by decide +kernel
theorem dX0_appendUnlessEmpty_8 : decode cX0_appendUnlessEmpty 8 = .ok (.iconst 0, 1) := by decide +kernel
theorem dX0_appendUnlessEmpty_9 : decode cX0_appendUnlessEmpty 9 = .ok (.invokevirtual 31, 3) := by decide +kernel
theorem dX0_appendUnlessEmpty_12 : decode cX0_appendUnlessEmpty 12 = .ok (.return_, 1) := by decide +kernel
theorem dX0_moveOn_0 : decode cX0_moveOn 0 = .ok (.iconst 0, 1) := by decide +kernel
theorem dX0_moveOn_1 : decode cX0_moveOn 1 = .ok (.istore_n 3, 1) := by decide +kernel
theorem dX0_moveOn_2 : decode cX0_moveOn 2 = .ok (.iload_n 3, 1) := by decide +kernel
theorem dX0_moveOn_3 : decode cX0_moveOn 3 = .ok (.aload_n 0, 1) := by decide +kernel
theorem dX0_moveOn_4 : decode cX0_moveOn 4 = .ok (.getfield 18, 3) := by decide +kernel
theorem dX0_moveOn_7 : decode cX0_moveOn 7 = .ok (.if_icmp .ge 49, 3) := by decide +kernel
theorem dX0_moveOn_10 : decode cX0_moveOn 10 = .ok (.aload_n 0, 1) := by decide +kernel
theorem dX0_moveOn_11 : decode cX0_moveOn 11 = .ok (.getfield 9, 3) := by decide +kernel
theorem dX0_moveOn_14 : decode cX0_moveOn 14 = .ok (.iload_n 3, 1) := by decide +kernel
theorem dX0_moveOn_15 : decode cX0_moveOn 15 = .ok (.iaload, 1) := by decide +kernel
theorem dX0_moveOn_16 : decode cX0_moveOn 16 = .ok (.iload_n 1, 1) := by decide +kernel
theorem dX0_moveOn_17 : decode cX0_moveOn 17 = .ok (.if_icmp .lt 13, 3) := by decide +kernel
theorem dX0_moveOn_20 : decode cX0_moveOn 20 = .ok (.aload_n 0, 1) := by decide +kernel
theorem dX0_moveOn_21 : decode cX0_moveOn 21 = .ok (.getfield 9, 3) := by decide +kernel
theorem dX0_moveOn_24 : decode cX0_moveOn 24 = .ok (.iload_n 3, 1) := by decide +kernel
theorem dX0_moveOn_25 : decode cX0_moveOn 25 = .ok (.dup2, 1) := by decide +kernel
theorem dX0_moveOn_26 : decode cX0_moveOn 26 = .ok (.iaload, 1) := by decide +kernel
theorem dX0_moveOn_27 : decode cX0_moveOn 27 = .ok (.iload_n 2, 1) := by decide +kernel
theorem dX0_moveOn_28 : decode cX0_moveOn 28 = .ok (.iadd, 1) := by decide +kernel
theorem dX0_moveOn_29 : decode cX0_moveOn 29 = .ok (.iastore, 1) := by decide +kernel
theorem dX0_moveOn_30 : decode cX0_moveOn 30 = .ok (.aload_n 0, 1) := by decide +kernel
theorem dX0_moveOn_31 : decode cX0_moveOn 31 = .ok (.getfield 15, 3) := by decide +kernel
theorem dX0_moveOn_34 : decode cX0_moveOn 34 = .ok (.iload_n 3, 1) := by decide +kernel
theorem dX0_moveOn_35 : decode cX0_moveOn 35 = .ok (.iaload, 1) := by decide +kernel
theorem dX0_moveOn_36 : decode cX0_moveOn 36 = .ok (.iload_n 1, 1) := by decide +kernel
theorem dX0_moveOn_37 : decode cX0_moveOn 37 = .ok (.if_icmp .lt 13, 3) := by decide +kernel
theorem dX0_moveOn_40 : decode cX0_moveOn 40 = .ok (.aload_n 0, 1) := by decide +kernel
theorem dX0_moveOn_41 : decode cX0_moveOn 41 = .ok (.getfield 15, 3) := by decide +kernel
theorem dX0_moveOn_44 : decode cX0_moveOn 44 = .ok (.iload_n 3, 1) := by decide +kernel
theorem dX0_moveOn_45 : decode cX0_moveOn 45 = .ok (.dup2, 1) := by decide +kernel
theorem dX0_moveOn_46 : decode cX0_moveOn 46 = .ok (.iaload, 1) := by decide +kernel
theorem dX0_moveOn_47 : decode cX0_moveOn 47 = .ok (.iload_n 2, 1) := by decide +kernel
theorem dX0_moveOn_48 : decode cX0_moveOn 48 = .ok (.iadd, 1) := by decide +kernel
theorem dX0_moveOn_49 : decode cX0_moveOn 49 = .ok (.iastore, 1) := by decide +kernel
theorem dX0_moveOn_50 : decode cX0_moveOn 50 = .ok (.iinc 3 1, 3) := by decide +kernel
theorem dX0_moveOn_53 : decode cX0_moveOn 53 = .ok (.goto (-51), 3) := by decide +kernel
theorem dX0_moveOn_56 : decode cX0_moveOn 56 = .ok (.return_, 1) := by decide +kernel
