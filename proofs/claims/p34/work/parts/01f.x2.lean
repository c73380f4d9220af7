theorem dX2_init_0 : decode cX2_init 0 = .ok (.aload_n 0, 1) := by decide +kernel
theorem dX2_init_1 : decode cX2_init 1 = .ok (.invokespecial 1, 3) := by decide +kernel
theorem dX2_init_4 : decode cX2_init 4 = .ok (.aload_n 0, 1) := by decide +kernel
theorem dX2_init_5 : decode cX2_init 5 = .ok (.bipush 100, 2) := by decide +kernel
theorem dX2_init_7 : decode cX2_init 7 = .ok (.putfield 7, 3) := by decide +kernel
theorem dX2_init_10 : decode cX2_init 10 = .ok (.aload_n 0, 1) := by decide +kernel
theorem dX2_init_11 : decode cX2_init 11 = .ok (.iconst 0, 1) := by decide +kernel
theorem dX2_init_12 : decode cX2_init 12 = .ok (.anewarray 13, 3) := by decide +kernel
theorem dX2_init_15 : decode cX2_init 15 = .ok (.putfield 15, 3) := by decide +kernel
theorem dX2_init_18 : decode cX2_init 18 = .ok (.aload_n 0, 1) := by decide +kernel
theorem dX2_init_19 : decode cX2_init 19 = .ok (.iconst 0, 1) := by decide +kernel
theorem dX2_init_20 : decode cX2_init 20 = .ok (.newarray .int, 2) := by decide +kernel
theorem dX2_init_22 : decode cX2_init 22 = .ok (.putfield 19, 3) := by decide +kernel
theorem dX2_init_25 : decode cX2_init 25 = .ok (.aload_n 0, 1) := by decide +kernel
theorem dX2_init_26 : decode cX2_init 26 = .ok (.iconst 0, 1) := by decide +kernel
theorem dX2_init_27 : decode cX2_init 27 = .ok (.anewarray 23, 3) := by decide +kernel
theorem dX2_init_30 : decode cX2_init 30 = .ok (.putfield 24, 3) := by decide +kernel
theorem dX2_init_33 : decode cX2_init 33 = .ok (.return_, 1) := by decide +kernel
theorem dX2_with_0 : decode cX2_with 0 = .ok (.aload_n 0, 1) := by decide +kernel
theorem dX2_with_1 : decode cX2_with 1 = .ok (.arraylength, 1) := by decide +kernel
theorem dX2_with_2 : decode cX2_with 2 = .ok (.iconst 1, 1) := by decide +kernel
theorem dX2_with_3 : decode cX2_with 3 = .ok (.iadd, 1) := by decide +kernel
theorem dX2_with_4 : decode cX2_with 4 = .ok (.anewarray 23, 3) := by decide +kernel
theorem dX2_with_7 : decode cX2_with 7 = .ok (.astore_n 2, 1) := by decide +kernel
theorem dX2_with_8 : decode cX2_with 8 = .ok (.iconst 0, 1) := by decide +kernel
theorem dX2_with_9 : decode cX2_with 9 = .ok (.istore_n 3, 1) := by decide +kernel
theorem dX2_with_10 : decode cX2_with 10 = .ok (.iload_n 3, 1) := by decide +kernel
theorem dX2_with_11 : decode cX2_with 11 = .ok (.aload_n 0, 1) := by decide +kernel
theorem dX2_with_12 : decode cX2_with 12 = .ok (.arraylength, 1) := by decide +kernel
theorem dX2_with_13 : decode cX2_with 13 = .ok (.if_icmp .ge 15, 3) := by decide +kernel
theorem dX2_with_16 : decode cX2_with 16 = .ok (.aload_n 2, 1) := by decide +kernel
theorem dX2_with_17 : decode cX2_with 17 = .ok (.iload_n 3, 1) := by decide +kernel
theorem dX2_with_18 : decode cX2_with 18 = .ok (.aload_n 0, 1) := by decide +kernel
theorem dX2_with_19 : decode cX2_with 19 = .ok (.iload_n 3, 1) := by decide +kernel
theorem dX2_with_20 : decode cX2_with 20 = .ok (.aaload, 1) := by decide +kernel
theorem dX2_with_21 : decode cX2_with 21 = .ok (.aastore, 1) := by decide +kernel
theorem dX2_with_22 : decode cX2_with 22 = .ok (.iinc 3 1, 3) := by decide +kernel
theorem dX2_with_25 : decode cX2_with 25 = .ok (.goto (-15), 3) := by decide +kernel
theorem dX2_with_28 : decode cX2_with 28 = .ok (.aload_n 2, 1) := by decide +kernel
theorem dX2_with_29 : decode cX2_with 29 = .ok (.aload_n 0, 1) := by decide +kernel
theorem dX2_with_30 : decode cX2_with 30 = .ok (.arraylength, 1) := by decide +kernel
theorem dX2_with_31 : decode cX2_with 31 = .ok (.aload_n 1, 1) := by decide +kernel
theorem dX2_with_32 : decode cX2_with 32 = .ok (.aastore, 1) := by decide +kernel
theorem dX2_with_33 : decode cX2_with 33 = .ok (.aload_n 2, 1) := by decide +kernel
theorem dX2_with_34 : decode cX2_with 34 = .ok (.areturn, 1) := by decide +kernel
theorem dX2_with__0 : decode cX2_with_ 0 = .ok (.aload_n 0, 1) := by decide +kernel
theorem dX2_with__1 : decode cX2_with_ 1 = .ok (.arraylength, 1) := by decide +kernel
theorem dX2_with__2 : decode cX2_with_ 2 = .ok (.iconst 1, 1) := by decide +kernel
theorem dX2_with__3 : decode cX2_with_ 3 = .ok (.iadd, 1) := by decide +kernel
theorem dX2_with__4 : decode cX2_with_ 4 = .ok (.newarray .int, 2) := by decide +kernel
theorem dX2_with__6 : decode cX2_with_ 6 = .ok (.astore_n 2, 1) := by decide +kernel
theorem dX2_with__7 : decode cX2_with_ 7 = .ok (.iconst 0, 1) := by decide +kernel
theorem dX2_with__8 : decode cX2_with_ 8 = .ok (.istore_n 3, 1) := by decide +kernel
theorem dX2_with__9 : decode cX2_with_ 9 = .ok (.iload_n 3, 1) := by decide +kernel
theorem dX2_with__10 : decode cX2_with_ 10 = .ok (.aload_n 0, 1) := by decide +kernel
theorem dX2_with__11 : decode cX2_with_ 11 = .ok (.arraylength, 1) := by decide +kernel
theorem dX2_with__12 : decode cX2_with_ 12 = .ok (.if_icmp .ge 15, 3) := by decide +kernel
theorem dX2_with__15 : decode cX2_with_ 15 = .ok (.aload_n 2, 1) := by decide +kernel
theorem dX2_with__16 : decode cX2_with_ 16 = .ok (.iload_n 3, 1) := by decide +kernel
theorem dX2_with__17 : decode cX2_with_ 17 = .ok (.aload_n 0, 1) := by decide +kernel
theorem dX2_with__18 : decode cX2_with_ 18 = .ok (.iload_n 3, 1) := by decide +kernel
theorem dX2_with__19 : decode cX2_with_ 19 = .ok (.iaload, 1) := by decide +kernel
theorem dX2_with__20 : decode cX2_with_ 20 = .ok (.iastore, 1) := by decide +kernel
theorem dX2_with__21 : decode cX2_with_ 21 = .ok (.iinc 3 1, 3) := by decide +kernel
theorem dX2_with__24 : decode cX2_with_ 24 = .ok (.goto (-15), 3) := by decide +kernel
theorem dX2_with__27 : decode cX2_with_ 27 = .ok (.aload_n 2, 1) := by decide +kernel
theorem dX2_with__28 : decode cX2_with_ 28 = .ok (.aload_n 0, 1) := by decide +kernel
theorem dX2_with__29 : decode cX2_with_ 29 = .ok (.arraylength, 1) := by decide +kernel
theorem dX2_with__30 : decode cX2_with_ 30 = .ok (.iload_n 1, 1) := by decide +kernel
theorem dX2_with__31 : decode cX2_with_ 31 = .ok (.iastore, 1) := by decide +kernel
theorem dX2_with__32 : decode cX2_with_ 32 = .ok (.aload_n 2, 1) := by decide +kernel
theorem dX2_with__33 : decode cX2_with_ 33 = .ok (.areturn, 1) := by decide +kernel
theorem dX2_addHeading_0 : decode cX2_addHeading 0 = .ok (.aload_n 0, 1) := by decide +kernel
theorem dX2_addHeading_1 : decode cX2_addHeading 1 = .ok (.getfield 15, 3) := by decide +kernel
theorem dX2_addHeading_4 : decode cX2_addHeading 4 = .ok (.arraylength, 1) := by decide +kernel
theorem dX2_addHeading_5 : decode cX2_addHeading 5 = .ok (.iconst 1, 1) := by decide +kernel
theorem dX2_addHeading_6 : decode cX2_addHeading 6 = .ok (.iadd, 1) := by decide +kernel
theorem dX2_addHeading_7 : decode cX2_addHeading 7 = .ok (.anewarray 13, 3) := by decide +kernel
theorem dX2_addHeading_10 : decode cX2_addHeading 10 = .ok (.astore_n 1, 1) := by decide +kernel
theorem dX2_addHeading_11 : decode cX2_addHeading 11 = .ok (.iconst 0, 1) := by decide +kernel
theorem dX2_addHeading_12 : decode cX2_addHeading 12 = .ok (.istore_n 2, 1) := by decide +kernel
theorem dX2_addHeading_13 : decode cX2_addHeading 13 = .ok (.iload_n 2, 1) := by decide +kernel
theorem dX2_addHeading_14 : decode cX2_addHeading 14 = .ok (.aload_n 0, 1) := by decide +kernel
theorem dX2_addHeading_15 : decode cX2_addHeading 15 = .ok (.getfield 15, 3) := by decide +kernel
theorem dX2_addHeading_18 : decode cX2_addHeading 18 = .ok (.arraylength, 1) := by decide +kernel
theorem dX2_addHeading_19 : decode cX2_addHeading 19 = .ok (.if_icmp .ge 18, 3) := by decide +kernel
theorem dX2_addHeading_22 : decode cX2_addHeading 22 = .ok (.aload_n 1, 1) := by decide +kernel
theorem dX2_addHeading_23 : decode cX2_addHeading 23 = .ok (.iload_n 2, 1) := by decide +kernel
theorem dX2_addHeading_24 : decode cX2_addHeading 24 = .ok (.aload_n 0, 1) := by decide +kernel
theorem dX2_addHeading_25 : decode cX2_addHeading 25 = .ok (.getfield 15, 3) := by decide +kernel
theorem dX2_addHeading_28 : decode cX2_addHeading 28 = .ok (.iload_n 2, 1) := by decide +kernel
theorem dX2_addHeading_29 : decode cX2_addHeading 29 = .ok (.aaload, 1) := by decide +kernel
theorem dX2_addHeading_30 : decode cX2_addHeading 30 = .ok (.aastore, 1) := by decide +kernel
theorem dX2_addHeading_31 : decode cX2_addHeading 31 = .ok (.iinc 2 1, 3) := by decide +kernel
theorem dX2_addHeading_34 : decode cX2_addHeading 34 = .ok (.goto (-21), 3) := by decide +kernel
theorem dX2_addHeading_37 : decode cX2_addHeading 37 = .ok (.aload_n 1, 1) := by decide +kernel
theorem dX2_addHeading_38 : decode cX2_addHeading 38 = .ok (.aload_n 0, 1) := by decide +kernel
theorem dX2_addHeading_39 : decode cX2_addHeading 39 = .ok (.getfield 15, 3) := by decide +kernel
theorem dX2_addHeading_42 : decode cX2_addHeading 42 = .ok (.arraylength, 1) := by decide +kernel
theorem dX2_addHeading_43 : decode cX2_addHeading 43 = .ok (.iconst 0, 1) := by decide +kernel
theorem dX2_addHeading_44 : decode cX2_addHeading 44 = .ok (.anewarray 23, 3) := by decide +kernel
theorem dX2_addHeading_47 : decode cX2_addHeading 47 = .ok (.aastore, 1) := by decide +kernel
theorem dX2_addHeading_48 : decode cX2_addHeading 48 = .ok (.aload_n 0, 1) := by decide +kernel
theorem dX2_addHeading_49 : decode cX2_addHeading 49 = .ok (.aload_n 1, 1) := by decide +kernel
theorem dX2_addHeading_50 : decode cX2_addHeading 50 = .ok (.putfield 15, 3) := by decide +kernel
theorem dX2_addHeading_53 : decode cX2_addHeading 53 = .ok (.aload_n 0, 1) := by decide +kernel
theorem dX2_addHeading_54 : decode cX2_addHeading 54 = .ok (.aload_n 0, 1) := by decide +kernel
theorem dX2_addHeading_55 : decode cX2_addHeading 55 = .ok (.getfield 19, 3) := by decide +kernel
theorem dX2_addHeading_58 : decode cX2_addHeading 58 = .ok (.iconst (-1), 1) := by decide +kernel
theorem dX2_addHeading_59 : decode cX2_addHeading 59 = .ok (.invokestatic 27, 3) := by decide +kernel
theorem dX2_addHeading_62 : decode cX2_addHeading 62 = .ok (.putfield 19, 3) := by decide +kernel
theorem dX2_addHeading_65 : decode cX2_addHeading 65 = .ok (.aload_n 0, 1) := by decide +kernel
theorem dX2_addHeading_66 : decode cX2_addHeading 66 = .ok (.aload_n 0, 1) := by decide +kernel
theorem dX2_addHeading_67 : decode cX2_addHeading 67 = .ok (.getfield 24, 3) := by decide +kernel
theorem dX2_addHeading_70 : decode cX2_addHeading 70 = .ok (.iconst 0, 1) := by decide +kernel
theorem dX2_addHeading_71 : decode cX2_addHeading 71 = .ok (.newarray .int, 2) := by decide +kernel
theorem dX2_addHeading_73 : decode cX2_addHeading 73 = .ok (.invokestatic 31, 3) := by decide +kernel
theorem dX2_addHeading_76 : decode cX2_addHeading 76 = .ok (.putfield 24, 3) := by decide +kernel
theorem dX2_addHeading_79 : decode cX2_addHeading 79 = .ok (.return_, 1) := by decide +kernel
theorem dX2_merged_0 : decode cX2_merged 0 = .ok (.iconst 0, 1) := by decide +kernel
theorem dX2_merged_1 : decode cX2_merged 1 = .ok (.anewarray 23, 3) := by decide +kernel
theorem dX2_merged_4 : decode cX2_merged 4 = .ok (.astore_n 1, 1) := by decide +kernel
theorem dX2_merged_5 : decode cX2_merged 5 = .ok (.aload_n 0, 1) := by decide +kernel
theorem dX2_merged_6 : decode cX2_merged 6 = .ok (.arraylength, 1) := by decide +kernel
theorem dX2_merged_7 : decode cX2_merged 7 = .ok (.newarray .boolean, 2) := by decide +kernel
theorem dX2_merged_9 : decode cX2_merged 9 = .ok (.astore_n 2, 1) := by decide +kernel
theorem dX2_merged_10 : decode cX2_merged 10 = .ok (.iconst 0, 1) := by decide +kernel
theorem dX2_merged_11 : decode cX2_merged 11 = .ok (.istore_n 3, 1) := by decide +kernel
theorem dX2_merged_12 : decode cX2_merged 12 = .ok (.iload_n 3, 1) := by decide +kernel
theorem dX2_merged_13 : decode cX2_merged 13 = .ok (.aload_n 0, 1) := by decide +kernel
theorem dX2_merged_14 : decode cX2_merged 14 = .ok (.arraylength, 1) := by decide +kernel
theorem dX2_merged_15 : decode cX2_merged 15 = .ok (.if_icmp .ge 147, 3) := by decide +kernel
theorem dX2_merged_18 : decode cX2_merged 18 = .ok (.iconst (-1), 1) := by decide +kernel
theorem dX2_merged_19 : decode cX2_merged 19 = .ok (.istore 4, 2) := by decide +kernel
theorem dX2_merged_21 : decode cX2_merged 21 = .ok (.iconst 0, 1) := by decide +kernel
theorem dX2_merged_22 : decode cX2_merged 22 = .ok (.istore 5, 2) := by decide +kernel
theorem dX2_merged_24 : decode cX2_merged 24 = .ok (.iload 5, 2) := by decide +kernel
theorem dX2_merged_26 : decode cX2_merged 26 = .ok (.aload_n 0, 1) := by decide +kernel
theorem dX2_merged_27 : decode cX2_merged 27 = .ok (.arraylength, 1) := by decide +kernel
theorem dX2_merged_28 : decode cX2_merged 28 = .ok (.if_icmp .ge 40, 3) := by decide +kernel
theorem dX2_merged_31 : decode cX2_merged 31 = .ok (.aload_n 2, 1) := by decide +kernel
theorem dX2_merged_32 : decode cX2_merged 32 = .ok (.iload 5, 2) := by decide +kernel
theorem dX2_merged_34 : decode cX2_merged 34 = .ok (.baload, 1) := by decide +kernel
theorem dX2_merged_35 : decode cX2_merged 35 = .ok (.ifCond .ne 27, 3) := by decide +kernel
theorem dX2_merged_38 : decode cX2_merged 38 = .ok (.iload 4, 2) := by decide +kernel
theorem dX2_merged_40 : decode cX2_merged 40 = .ok (.ifCond .lt 18, 3) := by decide +kernel
theorem dX2_merged_43 : decode cX2_merged 43 = .ok (.aload_n 0, 1) := by decide +kernel
theorem dX2_merged_44 : decode cX2_merged 44 = .ok (.iload 5, 2) := by decide +kernel
theorem dX2_merged_46 : decode cX2_merged 46 = .ok (.aaload, 1) := by decide +kernel
theorem dX2_merged_47 : decode cX2_merged 47 = .ok (.iconst 0, 1) := by decide +kernel
theorem dX2_merged_48 : decode cX2_merged 48 = .ok (.iaload, 1) := by decide +kernel
theorem dX2_merged_49 : decode cX2_merged 49 = .ok (.aload_n 0, 1) := by decide +kernel
theorem dX2_merged_50 : decode cX2_merged 50 = .ok (.iload 4, 2) := by decide +kernel
theorem dX2_merged_52 : decode cX2_merged 52 = .ok (.aaload, 1) := by decide +kernel
theorem dX2_merged_53 : decode cX2_merged 53 = .ok (.iconst 0, 1) := by decide +kernel
theorem dX2_merged_54 : decode cX2_merged 54 = .ok (.iaload, 1) := by decide +kernel
theorem dX2_merged_55 : decode cX2_merged 55 = .ok (.if_icmp .ge 7, 3) := by decide +kernel
theorem dX2_merged_58 : decode cX2_merged 58 = .ok (.iload 5, 2) := by decide +kernel
theorem dX2_merged_60 : decode cX2_merged 60 = .ok (.istore 4, 2) := by decide +kernel
theorem dX2_merged_62 : decode cX2_merged 62 = .ok (.iinc 5 1, 3) := by decide +kernel
theorem dX2_merged_65 : decode cX2_merged 65 = .ok (.goto (-41), 3) := by decide +kernel
theorem dX2_merged_68 : decode cX2_merged 68 = .ok (.aload_n 2, 1) := by decide +kernel
theorem dX2_merged_69 : decode cX2_merged 69 = .ok (.iload 4, 2) := by decide +kernel
theorem dX2_merged_71 : decode cX2_merged 71 = .ok (.iconst 1, 1) := by decide +kernel
theorem dX2_merged_72 : decode cX2_merged 72 = .ok (.bastore, 1) := by decide +kernel
theorem dX2_merged_73 : decode cX2_merged 73 = .ok (.aload_n 1, 1) := by decide +kernel
theorem dX2_merged_74 : decode cX2_merged 74 = .ok (.arraylength, 1) := by decide +kernel
theorem dX2_merged_75 : decode cX2_merged 75 = .ok (.ifCond .ne 7, 3) := by decide +kernel
theorem dX2_merged_78 : decode cX2_merged 78 = .ok (.aconst_null, 1) := by decide +kernel
theorem dX2_merged_79 : decode cX2_merged 79 = .ok (.goto 9, 3) := by decide +kernel
theorem dX2_merged_82 : decode cX2_merged 82 = .ok (.aload_n 1, 1) := by decide +kernel
theorem dX2_merged_83 : decode cX2_merged 83 = .ok (.aload_n 1, 1) := by decide +kernel
theorem dX2_merged_84 : decode cX2_merged 84 = .ok (.arraylength, 1) := by decide +kernel
theorem dX2_merged_85 : decode cX2_merged 85 = .ok (.iconst 1, 1) := by decide +kernel
theorem dX2_merged_86 : decode cX2_merged 86 = .ok (.isub, 1) := by decide +kernel
theorem dX2_merged_87 : decode cX2_merged 87 = .ok (.aaload, 1) := by decide +kernel
theorem dX2_merged_88 : decode cX2_merged 88 = .ok (.astore 5, 2) := by decide +kernel
theorem dX2_merged_90 : decode cX2_merged 90 = .ok (.aload 5, 2) := by decide +kernel
theorem dX2_merged_92 : decode cX2_merged 92 = .ok (.ifnull 38, 3) := by decide +kernel
theorem dX2_merged_95 : decode cX2_merged 95 = .ok (.aload_n 0, 1) := by decide +kernel
theorem dX2_merged_96 : decode cX2_merged 96 = .ok (.iload 4, 2) := by decide +kernel
theorem dX2_merged_98 : decode cX2_merged 98 = .ok (.aaload, 1) := by decide +kernel
theorem dX2_merged_99 : decode cX2_merged 99 = .ok (.iconst 0, 1) := by decide +kernel
theorem dX2_merged_100 : decode cX2_merged 100 = .ok (.iaload, 1) := by decide +kernel
theorem dX2_merged_101 : decode cX2_merged 101 = .ok (.aload 5, 2) := by decide +kernel
theorem dX2_merged_103 : decode cX2_merged 103 = .ok (.iconst 1, 1) := by decide +kernel
theorem dX2_merged_104 : decode cX2_merged 104 = .ok (.iaload, 1) := by decide +kernel
theorem dX2_merged_105 : decode cX2_merged 105 = .ok (.iconst 1, 1) := by decide +kernel
theorem dX2_merged_106 : decode cX2_merged 106 = .ok (.iadd, 1) := by decide +kernel
theorem dX2_merged_107 : decode cX2_merged 107 = .ok (.if_icmp .gt 23, 3) := by decide +kernel
theorem dX2_merged_110 : decode cX2_merged 110 = .ok (.aload 5, 2) := by decide +kernel
theorem dX2_merged_112 : decode cX2_merged 112 = .ok (.iconst 1, 1) := by decide +kernel
theorem dX2_merged_113 : decode cX2_merged 113 = .ok (.aload 5, 2) := by decide +kernel
theorem dX2_merged_115 : decode cX2_merged 115 = .ok (.iconst 1, 1) := by decide +kernel
theorem dX2_merged_116 : decode cX2_merged 116 = .ok (.iaload, 1) := by decide +kernel
theorem dX2_merged_117 : decode cX2_merged 117 = .ok (.aload_n 0, 1) := by decide +kernel
theorem dX2_merged_118 : decode cX2_merged 118 = .ok (.iload 4, 2) := by decide +kernel
theorem dX2_merged_120 : decode cX2_merged 120 = .ok (.aaload, 1) := by decide +kernel
theorem dX2_merged_121 : decode cX2_merged 121 = .ok (.iconst 1, 1) := by decide +kernel
theorem dX2_merged_122 : decode cX2_merged 122 = .ok (.iaload, 1) := by decide +kernel
theorem dX2_merged_123 : decode cX2_merged 123 = .ok (.invokestatic 34, 3) := by decide +kernel
theorem dX2_merged_126 : decode cX2_merged 126 = .ok (.iastore, 1) := by decide +kernel
theorem dX2_merged_127 : decode cX2_merged 127 = .ok (.goto 29, 3) := by decide +kernel
theorem dX2_merged_130 : decode cX2_merged 130 = .ok (.aload_n 1, 1) := by decide +kernel
theorem dX2_merged_131 : decode cX2_merged 131 = .ok (.iconst 2, 1) := by decide +kernel
theorem dX2_merged_132 : decode cX2_merged 132 = .ok (.newarray .int, 2) := by decide +kernel
theorem dX2_merged_134 : decode cX2_merged 134 = .ok (.dup, 1) := by decide +kernel
theorem dX2_merged_135 : decode cX2_merged 135 = .ok (.iconst 0, 1) := by decide +kernel
theorem dX2_merged_136 : decode cX2_merged 136 = .ok (.aload_n 0, 1) := by decide +kernel
theorem dX2_merged_137 : decode cX2_merged 137 = .ok (.iload 4, 2) := by decide +kernel
theorem dX2_merged_139 : decode cX2_merged 139 = .ok (.aaload, 1) := by decide +kernel
theorem dX2_merged_140 : decode cX2_merged 140 = .ok (.iconst 0, 1) := by decide +kernel
theorem dX2_merged_141 : decode cX2_merged 141 = .ok (.iaload, 1) := by decide +kernel
theorem dX2_merged_142 : decode cX2_merged 142 = .ok (.iastore, 1) := by decide +kernel
theorem dX2_merged_143 : decode cX2_merged 143 = .ok (.dup, 1) := by decide +kernel
theorem dX2_merged_144 : decode cX2_merged 144 = .ok (.iconst 1, 1) := by decide +kernel
theorem dX2_merged_145 : decode cX2_merged 145 = .ok (.aload_n 0, 1) := by decide +kernel
theorem dX2_merged_146 : decode cX2_merged 146 = .ok (.iload 4, 2) := by decide +kernel
theorem dX2_merged_148 : decode cX2_merged 148 = .ok (.aaload, 1) := by decide +kernel
theorem dX2_merged_149 : decode cX2_merged 149 = .ok (.iconst 1, 1) := by decide +kernel
theorem dX2_merged_150 : decode cX2_merged 150 = .ok (.iaload, 1) := by decide +kernel
theorem dX2_merged_151 : decode cX2_merged 151 = .ok (.iastore, 1) := by decide +kernel
theorem dX2_merged_152 : decode cX2_merged 152 = .ok (.invokestatic 31, 3) := by decide +kernel
theorem dX2_merged_155 : decode cX2_merged 155 = .ok (.astore_n 1, 1) := by decide +kernel
theorem dX2_merged_156 : decode cX2_merged 156 = .ok (.iinc 3 1, 3) := by decide +kernel
theorem dX2_merged_159 : decode cX2_merged 159 = .ok (.goto (-147), 3) := by decide +kernel
theorem dX2_merged_162 : decode cX2_merged 162 = .ok (.aload_n 1, 1) := by decide +kernel
theorem dX2_merged_163 : decode cX2_merged 163 = .ok (.areturn, 1) := by decide +kernel
theorem dX2_cut_0 : decode cX2_cut 0 = .ok (.iconst 0, 1) := by decide +kernel
theorem dX2_cut_1 : decode cX2_cut 1 = .ok (.anewarray 23, 3) := by decide +kernel
theorem dX2_cut_4 : decode cX2_cut 4 = .ok (.astore_n 3, 1) := by decide +kernel
theorem dX2_cut_5 : decode cX2_cut 5 = .ok (.aload_n 0, 1) := by decide +kernel
theorem dX2_cut_6 : decode cX2_cut 6 = .ok (.astore 4, 2) := by decide +kernel
theorem dX2_cut_8 : decode cX2_cut 8 = .ok (.aload 4, 2) := by decide +kernel
theorem dX2_cut_10 : decode cX2_cut 10 = .ok (.arraylength, 1) := by decide +kernel
theorem dX2_cut_11 : decode cX2_cut 11 = .ok (.istore 5, 2) := by decide +kernel
theorem dX2_cut_13 : decode cX2_cut 13 = .ok (.iconst 0, 1) := by decide +kernel
theorem dX2_cut_14 : decode cX2_cut 14 = .ok (.istore 6, 2) := by decide +kernel
theorem dX2_cut_16 : decode cX2_cut 16 = .ok (.iload 6, 2) := by decide +kernel
theorem dX2_cut_18 : decode cX2_cut 18 = .ok (.iload 5, 2) := by decide +kernel
theorem dX2_cut_20 : decode cX2_cut 20 = .ok (.if_icmp .ge 88, 3) := by decide +kernel
theorem dX2_cut_23 : decode cX2_cut 23 = .ok (.aload 4, 2) := by decide +kernel
theorem dX2_cut_25 : decode cX2_cut 25 = .ok (.iload 6, 2) := by decide +kernel
theorem dX2_cut_27 : decode cX2_cut 27 = .ok (.aaload, 1) := by decide +kernel
theorem dX2_cut_28 : decode cX2_cut 28 = .ok (.astore 7, 2) := by decide +kernel
theorem dX2_cut_30 : decode cX2_cut 30 = .ok (.aload 7, 2) := by decide +kernel
theorem dX2_cut_32 : decode cX2_cut 32 = .ok (.iconst 0, 1) := by decide +kernel
theorem dX2_cut_33 : decode cX2_cut 33 = .ok (.iaload, 1) := by decide +kernel
theorem dX2_cut_34 : decode cX2_cut 34 = .ok (.iload_n 1, 1) := by decide +kernel
theorem dX2_cut_35 : decode cX2_cut 35 = .ok (.if_icmp .ge 31, 3) := by decide +kernel
theorem dX2_cut_38 : decode cX2_cut 38 = .ok (.aload_n 3, 1) := by decide +kernel
theorem dX2_cut_39 : decode cX2_cut 39 = .ok (.iconst 2, 1) := by decide +kernel
theorem dX2_cut_40 : decode cX2_cut 40 = .ok (.newarray .int, 2) := by decide +kernel
theorem dX2_cut_42 : decode cX2_cut 42 = .ok (.dup, 1) := by decide +kernel
theorem dX2_cut_43 : decode cX2_cut 43 = .ok (.iconst 0, 1) := by decide +kernel
theorem dX2_cut_44 : decode cX2_cut 44 = .ok (.aload 7, 2) := by decide +kernel
theorem dX2_cut_46 : decode cX2_cut 46 = .ok (.iconst 0, 1) := by decide +kernel
theorem dX2_cut_47 : decode cX2_cut 47 = .ok (.iaload, 1) := by decide +kernel
theorem dX2_cut_48 : decode cX2_cut 48 = .ok (.iastore, 1) := by decide +kernel
theorem dX2_cut_49 : decode cX2_cut 49 = .ok (.dup, 1) := by decide +kernel
theorem dX2_cut_50 : decode cX2_cut 50 = .ok (.iconst 1, 1) := by decide +kernel
theorem dX2_cut_51 : decode cX2_cut 51 = .ok (.aload 7, 2) := by decide +kernel
theorem dX2_cut_53 : decode cX2_cut 53 = .ok (.iconst 1, 1) := by decide +kernel
theorem dX2_cut_54 : decode cX2_cut 54 = .ok (.iaload, 1) := by decide +kernel
theorem dX2_cut_55 : decode cX2_cut 55 = .ok (.iload_n 1, 1) := by decide +kernel
theorem dX2_cut_56 : decode cX2_cut 56 = .ok (.iconst 1, 1) := by decide +kernel
theorem dX2_cut_57 : decode cX2_cut 57 = .ok (.isub, 1) := by decide +kernel
theorem dX2_cut_58 : decode cX2_cut 58 = .ok (.invokestatic 40, 3) := by decide +kernel
theorem dX2_cut_61 : decode cX2_cut 61 = .ok (.iastore, 1) := by decide +kernel
theorem dX2_cut_62 : decode cX2_cut 62 = .ok (.invokestatic 31, 3) := by decide +kernel
theorem dX2_cut_65 : decode cX2_cut 65 = .ok (.astore_n 3, 1) := by decide +kernel
theorem dX2_cut_66 : decode cX2_cut 66 = .ok (.aload 7, 2) := by decide +kernel
theorem dX2_cut_68 : decode cX2_cut 68 = .ok (.iconst 1, 1) := by decide +kernel
theorem dX2_cut_69 : decode cX2_cut 69 = .ok (.iaload, 1) := by decide +kernel
theorem dX2_cut_70 : decode cX2_cut 70 = .ok (.iload_n 2, 1) := by decide +kernel
theorem dX2_cut_71 : decode cX2_cut 71 = .ok (.if_icmp .le 31, 3) := by decide +kernel
theorem dX2_cut_74 : decode cX2_cut 74 = .ok (.aload_n 3, 1) := by decide +kernel
theorem dX2_cut_75 : decode cX2_cut 75 = .ok (.iconst 2, 1) := by decide +kernel
theorem dX2_cut_76 : decode cX2_cut 76 = .ok (.newarray .int, 2) := by decide +kernel
theorem dX2_cut_78 : decode cX2_cut 78 = .ok (.dup, 1) := by decide +kernel
theorem dX2_cut_79 : decode cX2_cut 79 = .ok (.iconst 0, 1) := by decide +kernel
theorem dX2_cut_80 : decode cX2_cut 80 = .ok (.aload 7, 2) := by decide +kernel
theorem dX2_cut_82 : decode cX2_cut 82 = .ok (.iconst 0, 1) := by decide +kernel
theorem dX2_cut_83 : decode cX2_cut 83 = .ok (.iaload, 1) := by decide +kernel
theorem dX2_cut_84 : decode cX2_cut 84 = .ok (.iload_n 2, 1) := by decide +kernel
theorem dX2_cut_85 : decode cX2_cut 85 = .ok (.iconst 1, 1) := by decide +kernel
theorem dX2_cut_86 : decode cX2_cut 86 = .ok (.iadd, 1) := by decide +kernel
theorem dX2_cut_87 : decode cX2_cut 87 = .ok (.invokestatic 34, 3) := by decide +kernel
theorem dX2_cut_90 : decode cX2_cut 90 = .ok (.iastore, 1) := by decide +kernel
theorem dX2_cut_91 : decode cX2_cut 91 = .ok (.dup, 1) := by decide +kernel
theorem dX2_cut_92 : decode cX2_cut 92 = .ok (.iconst 1, 1) := by decide +kernel
theorem dX2_cut_93 : decode cX2_cut 93 = .ok (.aload 7, 2) := by decide +kernel
theorem dX2_cut_95 : decode cX2_cut 95 = .ok (.iconst 1, 1) := by decide +kernel
theorem dX2_cut_96 : decode cX2_cut 96 = .ok (.iaload, 1) := by decide +kernel
theorem dX2_cut_97 : decode cX2_cut 97 = .ok (.iastore, 1) := by decide +kernel
theorem dX2_cut_98 : decode cX2_cut 98 = .ok (.invokestatic 31, 3) := by decide +kernel
theorem dX2_cut_101 : decode cX2_cut 101 = .ok (.astore_n 3, 1) := by decide +kernel
theorem dX2_cut_102 : decode cX2_cut 102 = .ok (.iinc 6 1, 3) := by decide +kernel
theorem dX2_cut_105 : decode cX2_cut 105 = .ok (.goto (-89), 3) := by decide +kernel
theorem dX2_cut_108 : decode cX2_cut 108 = .ok (.aload_n 3, 1) := by decide +kernel
theorem dX2_cut_109 : decode cX2_cut 109 = .ok (.areturn, 1) := by decide +kernel
theorem dX2_pagesOf_0 : decode cX2_pagesOf 0 = .ok (.iconst 0, 1) := by decide +kernel
theorem dX2_pagesOf_1 : decode cX2_pagesOf 1 = .ok (.istore_n 1, 1) := by decide +kernel
theorem dX2_pagesOf_2 : decode cX2_pagesOf 2 = .ok (.aload_n 0, 1) := by decide +kernel
theorem dX2_pagesOf_3 : decode cX2_pagesOf 3 = .ok (.astore_n 2, 1) := by decide +kernel
theorem dX2_pagesOf_4 : decode cX2_pagesOf 4 = .ok (.aload_n 2, 1) := by decide +kernel
theorem dX2_pagesOf_5 : decode cX2_pagesOf 5 = .ok (.arraylength, 1) := by decide +kernel
theorem dX2_pagesOf_6 : decode cX2_pagesOf 6 = .ok (.istore_n 3, 1) := by decide +kernel
theorem dX2_pagesOf_7 : decode cX2_pagesOf 7 = .ok (.iconst 0, 1) := by decide +kernel
theorem dX2_pagesOf_8 : decode cX2_pagesOf 8 = .ok (.istore 4, 2) := by decide +kernel
theorem dX2_pagesOf_10 : decode cX2_pagesOf 10 = .ok (.iload 4, 2) := by decide +kernel
theorem dX2_pagesOf_12 : decode cX2_pagesOf 12 = .ok (.iload_n 3, 1) := by decide +kernel
theorem dX2_pagesOf_13 : decode cX2_pagesOf 13 = .ok (.if_icmp .ge 29, 3) := by decide +kernel
theorem dX2_pagesOf_16 : decode cX2_pagesOf 16 = .ok (.aload_n 2, 1) := by decide +kernel
theorem dX2_pagesOf_17 : decode cX2_pagesOf 17 = .ok (.iload 4, 2) := by decide +kernel
theorem dX2_pagesOf_19 : decode cX2_pagesOf 19 = .ok (.aaload, 1) := by decide +kernel
theorem dX2_pagesOf_20 : decode cX2_pagesOf 20 = .ok (.astore 5, 2) := by decide +kernel
theorem dX2_pagesOf_22 : decode cX2_pagesOf 22 = .ok (.iload_n 1, 1) := by decide +kernel
theorem dX2_pagesOf_23 : decode cX2_pagesOf 23 = .ok (.aload 5, 2) := by decide +kernel
theorem dX2_pagesOf_25 : decode cX2_pagesOf 25 = .ok (.iconst 1, 1) := by decide +kernel
theorem dX2_pagesOf_26 : decode cX2_pagesOf 26 = .ok (.iaload, 1) := by decide +kernel
theorem dX2_pagesOf_27 : decode cX2_pagesOf 27 = .ok (.aload 5, 2) := by decide +kernel
theorem dX2_pagesOf_29 : decode cX2_pagesOf 29 = .ok (.iconst 0, 1) := by decide +kernel
theorem dX2_pagesOf_30 : decode cX2_pagesOf 30 = .ok (.iaload, 1) := by decide +kernel
theorem dX2_pagesOf_31 : decode cX2_pagesOf 31 = .ok (.isub, 1) := by decide +kernel
theorem dX2_pagesOf_32 : decode cX2_pagesOf 32 = .ok (.iconst 1, 1) := by decide +kernel
theorem dX2_pagesOf_33 : decode cX2_pagesOf 33 = .ok (.iadd, 1) := by decide +kernel
theorem dX2_pagesOf_34 : decode cX2_pagesOf 34 = .ok (.iadd, 1) := by decide +kernel
theorem dX2_pagesOf_35 : decode cX2_pagesOf 35 = .ok (.istore_n 1, 1) := by decide +kernel
theorem dX2_pagesOf_36 : decode cX2_pagesOf 36 = .ok (.iinc 4 1, 3) := by decide +kernel
theorem dX2_pagesOf_39 : decode cX2_pagesOf 39 = .ok (.goto (-29), 3) := by decide +kernel
theorem dX2_pagesOf_42 : decode cX2_pagesOf 42 = .ok (.iload_n 1, 1) := by decide +kernel
theorem dX2_pagesOf_43 : decode cX2_pagesOf 43 = .ok (.ireturn, 1) := by decide +kernel
theorem dX2_isOn_0 : decode cX2_isOn 0 = .ok (.aload_n 0, 1) := by decide +kernel
theorem dX2_isOn_1 : decode cX2_isOn 1 = .ok (.getfield 15, 3) := by decide +kernel
theorem dX2_isOn_4 : decode cX2_isOn 4 = .ok (.iload_n 1, 1) := by decide +kernel
theorem dX2_isOn_5 : decode cX2_isOn 5 = .ok (.aaload, 1) := by decide +kernel
theorem dX2_isOn_6 : decode cX2_isOn 6 = .ok (.astore_n 3, 1) := by decide +kernel
theorem dX2_isOn_7 : decode cX2_isOn 7 = .ok (.aload_n 3, 1) := by decide +kernel
theorem dX2_isOn_8 : decode cX2_isOn 8 = .ok (.arraylength, 1) := by decide +kernel
theorem dX2_isOn_9 : decode cX2_isOn 9 = .ok (.istore 4, 2) := by decide +kernel
theorem dX2_isOn_11 : decode cX2_isOn 11 = .ok (.iconst 0, 1) := by decide +kernel
theorem dX2_isOn_12 : decode cX2_isOn 12 = .ok (.istore 5, 2) := by decide +kernel
theorem dX2_isOn_14 : decode cX2_isOn 14 = .ok (.iload 5, 2) := by decide +kernel
theorem dX2_isOn_16 : decode cX2_isOn 16 = .ok (.iload 4, 2) := by decide +kernel
theorem dX2_isOn_18 : decode cX2_isOn 18 = .ok (.if_icmp .ge 33, 3) := by decide +kernel
theorem dX2_isOn_21 : decode cX2_isOn 21 = .ok (.aload_n 3, 1) := by decide +kernel
theorem dX2_isOn_22 : decode cX2_isOn 22 = .ok (.iload 5, 2) := by decide +kernel
theorem dX2_isOn_24 : decode cX2_isOn 24 = .ok (.aaload, 1) := by decide +kernel
theorem dX2_isOn_25 : decode cX2_isOn 25 = .ok (.astore 6, 2) := by decide +kernel
theorem dX2_isOn_27 : decode cX2_isOn 27 = .ok (.iload_n 2, 1) := by decide +kernel
theorem dX2_isOn_28 : decode cX2_isOn 28 = .ok (.aload 6, 2) := by decide +kernel
theorem dX2_isOn_30 : decode cX2_isOn 30 = .ok (.iconst 0, 1) := by decide +kernel
theorem dX2_isOn_31 : decode cX2_isOn 31 = .ok (.iaload, 1) := by decide +kernel
theorem dX2_isOn_32 : decode cX2_isOn 32 = .ok (.if_icmp .lt 13, 3) := by decide +kernel
theorem dX2_isOn_35 : decode cX2_isOn 35 = .ok (.iload_n 2, 1) := by decide +kernel
theorem dX2_isOn_36 : decode cX2_isOn 36 = .ok (.aload 6, 2) := by decide +kernel
theorem dX2_isOn_38 : decode cX2_isOn 38 = .ok (.iconst 1, 1) := by decide +kernel
theorem dX2_isOn_39 : decode cX2_isOn 39 = .ok (.iaload, 1) := by decide +kernel
theorem dX2_isOn_40 : decode cX2_isOn 40 = .ok (.if_icmp .gt 5, 3) := by decide +kernel
theorem dX2_isOn_43 : decode cX2_isOn 43 = .ok (.iconst 1, 1) := by decide +kernel
theorem dX2_isOn_44 : decode cX2_isOn 44 = .ok (.ireturn, 1) := by decide +kernel
theorem dX2_isOn_45 : decode cX2_isOn 45 = .ok (.iinc 5 1, 3) := by decide +kernel
theorem dX2_isOn_48 : decode cX2_isOn 48 = .ok (.goto (-34), 3) := by decide +kernel
theorem dX2_isOn_51 : decode cX2_isOn 51 = .ok (.iconst 0, 1) := by decide +kernel
theorem dX2_isOn_52 : decode cX2_isOn 52 = .ok (.ireturn, 1) := by decide +kernel
theorem dX2_onPage_0 : decode cX2_onPage 0 = .ok (.iconst 0, 1) := by decide +kernel
theorem dX2_onPage_1 : decode cX2_onPage 1 = .ok (.istore_n 2, 1) := by decide +kernel
theorem dX2_onPage_2 : decode cX2_onPage 2 = .ok (.iconst 0, 1) := by decide +kernel
theorem dX2_onPage_3 : decode cX2_onPage 3 = .ok (.istore_n 3, 1) := by decide +kernel
theorem dX2_onPage_4 : decode cX2_onPage 4 = .ok (.iload_n 3, 1) := by decide +kernel
theorem dX2_onPage_5 : decode cX2_onPage 5 = .ok (.aload_n 0, 1) := by decide +kernel
theorem dX2_onPage_6 : decode cX2_onPage 6 = .ok (.getfield 19, 3) := by decide +kernel
theorem dX2_onPage_9 : decode cX2_onPage 9 = .ok (.arraylength, 1) := by decide +kernel
theorem dX2_onPage_10 : decode cX2_onPage 10 = .ok (.if_icmp .ge 26, 3) := by decide +kernel
theorem dX2_onPage_13 : decode cX2_onPage 13 = .ok (.iload_n 2, 1) := by decide +kernel
theorem dX2_onPage_14 : decode cX2_onPage 14 = .ok (.aload_n 0, 1) := by decide +kernel
theorem dX2_onPage_15 : decode cX2_onPage 15 = .ok (.iload_n 3, 1) := by decide +kernel
theorem dX2_onPage_16 : decode cX2_onPage 16 = .ok (.iload_n 1, 1) := by decide +kernel
theorem dX2_onPage_17 : decode cX2_onPage 17 = .ok (.invokevirtual 43, 3) := by decide +kernel
theorem dX2_onPage_20 : decode cX2_onPage 20 = .ok (.ifCond .eq 7, 3) := by decide +kernel
theorem dX2_onPage_23 : decode cX2_onPage 23 = .ok (.iconst 1, 1) := by decide +kernel
theorem dX2_onPage_24 : decode cX2_onPage 24 = .ok (.goto 4, 3) := by decide +kernel
theorem dX2_onPage_27 : decode cX2_onPage 27 = .ok (.iconst 0, 1) := by decide +kernel
theorem dX2_onPage_28 : decode cX2_onPage 28 = .ok (.iadd, 1) := by decide +kernel
theorem dX2_onPage_29 : decode cX2_onPage 29 = .ok (.istore_n 2, 1) := by decide +kernel
theorem dX2_onPage_30 : decode cX2_onPage 30 = .ok (.iinc 3 1, 3) := by decide +kernel
theorem dX2_onPage_33 : decode cX2_onPage 33 = .ok (.goto (-29), 3) := by decide +kernel
theorem dX2_onPage_36 : decode cX2_onPage 36 = .ok (.iload_n 2, 1) := by decide +kernel
theorem dX2_onPage_37 : decode cX2_onPage 37 = .ok (.ireturn, 1) := by decide +kernel
theorem dX2_putIn_0 : decode cX2_putIn 0 = .ok (.aload_n 0, 1) := by decide +kernel
theorem dX2_putIn_1 : decode cX2_putIn 1 = .ok (.dup, 1) := by decide +kernel
theorem dX2_putIn_2 : decode cX2_putIn 2 = .ok (.getfield 7, 3) := by decide +kernel
theorem dX2_putIn_5 : decode cX2_putIn 5 = .ok (.iload_n 2, 1) := by decide +kernel
theorem dX2_putIn_6 : decode cX2_putIn 6 = .ok (.iadd, 1) := by decide +kernel
theorem dX2_putIn_7 : decode cX2_putIn 7 = .ok (.putfield 7, 3) := by decide +kernel
theorem dX2_putIn_10 : decode cX2_putIn 10 = .ok (.aload_n 0, 1) := by decide +kernel
theorem dX2_putIn_11 : decode cX2_putIn 11 = .ok (.getfield 15, 3) := by decide +kernel
theorem dX2_putIn_14 : decode cX2_putIn 14 = .ok (.astore_n 3, 1) := by decide +kernel
theorem dX2_putIn_15 : decode cX2_putIn 15 = .ok (.aload_n 3, 1) := by decide +kernel
theorem dX2_putIn_16 : decode cX2_putIn 16 = .ok (.arraylength, 1) := by decide +kernel
theorem dX2_putIn_17 : decode cX2_putIn 17 = .ok (.istore 4, 2) := by decide +kernel
theorem dX2_putIn_19 : decode cX2_putIn 19 = .ok (.iconst 0, 1) := by decide +kernel
theorem dX2_putIn_20 : decode cX2_putIn 20 = .ok (.istore 5, 2) := by decide +kernel
theorem dX2_putIn_22 : decode cX2_putIn 22 = .ok (.iload 5, 2) := by decide +kernel
theorem dX2_putIn_24 : decode cX2_putIn 24 = .ok (.iload 4, 2) := by decide +kernel
theorem dX2_putIn_26 : decode cX2_putIn 26 = .ok (.if_icmp .ge 79, 3) := by decide +kernel
theorem dX2_putIn_29 : decode cX2_putIn 29 = .ok (.aload_n 3, 1) := by decide +kernel
theorem dX2_putIn_30 : decode cX2_putIn 30 = .ok (.iload 5, 2) := by decide +kernel
theorem dX2_putIn_32 : decode cX2_putIn 32 = .ok (.aaload, 1) := by decide +kernel
theorem dX2_putIn_33 : decode cX2_putIn 33 = .ok (.astore 6, 2) := by decide +kernel
theorem dX2_putIn_35 : decode cX2_putIn 35 = .ok (.aload 6, 2) := by decide +kernel
theorem dX2_putIn_37 : decode cX2_putIn 37 = .ok (.astore 7, 2) := by decide +kernel
theorem dX2_putIn_39 : decode cX2_putIn 39 = .ok (.aload 7, 2) := by decide +kernel
theorem dX2_putIn_41 : decode cX2_putIn 41 = .ok (.arraylength, 1) := by decide +kernel
theorem dX2_putIn_42 : decode cX2_putIn 42 = .ok (.istore 8, 2) := by decide +kernel
theorem dX2_putIn_44 : decode cX2_putIn 44 = .ok (.iconst 0, 1) := by decide +kernel
theorem dX2_putIn_45 : decode cX2_putIn 45 = .ok (.istore 9, 2) := by decide +kernel
theorem dX2_putIn_47 : decode cX2_putIn 47 = .ok (.iload 9, 2) := by decide +kernel
theorem dX2_putIn_49 : decode cX2_putIn 49 = .ok (.iload 8, 2) := by decide +kernel
theorem dX2_putIn_51 : decode cX2_putIn 51 = .ok (.if_icmp .ge 48, 3) := by decide +kernel
theorem dX2_putIn_54 : decode cX2_putIn 54 = .ok (.aload 7, 2) := by decide +kernel
theorem dX2_putIn_56 : decode cX2_putIn 56 = .ok (.iload 9, 2) := by decide +kernel
theorem dX2_putIn_58 : decode cX2_putIn 58 = .ok (.aaload, 1) := by decide +kernel
theorem dX2_putIn_59 : decode cX2_putIn 59 = .ok (.astore 10, 2) := by decide +kernel
theorem dX2_putIn_61 : decode cX2_putIn 61 = .ok (.aload 10, 2) := by decide +kernel
theorem dX2_putIn_63 : decode cX2_putIn 63 = .ok (.iconst 1, 1) := by decide +kernel
theorem dX2_putIn_64 : decode cX2_putIn 64 = .ok (.iaload, 1) := by decide +kernel
theorem dX2_putIn_65 : decode cX2_putIn 65 = .ok (.iload_n 1, 1) := by decide +kernel
theorem dX2_putIn_66 : decode cX2_putIn 66 = .ok (.if_icmp .lt 11, 3) := by decide +kernel
theorem dX2_putIn_69 : decode cX2_putIn 69 = .ok (.aload 10, 2) := by decide +kernel
theorem dX2_putIn_71 : decode cX2_putIn 71 = .ok (.iconst 1, 1) := by decide +kernel
theorem dX2_putIn_72 : decode cX2_putIn 72 = .ok (.dup2, 1) := by decide +kernel
theorem dX2_putIn_73 : decode cX2_putIn 73 = .ok (.iaload, 1) := by decide +kernel
theorem dX2_putIn_74 : decode cX2_putIn 74 = .ok (.iload_n 2, 1) := by decide +kernel
theorem dX2_putIn_75 : decode cX2_putIn 75 = .ok (.iadd, 1) := by decide +kernel
theorem dX2_putIn_76 : decode cX2_putIn 76 = .ok (.iastore, 1) := by decide +kernel
theorem dX2_putIn_77 : decode cX2_putIn 77 = .ok (.aload 10, 2) := by decide +kernel
theorem dX2_putIn_79 : decode cX2_putIn 79 = .ok (.iconst 0, 1) := by decide +kernel
theorem dX2_putIn_80 : decode cX2_putIn 80 = .ok (.iaload, 1) := by decide +kernel
theorem dX2_putIn_81 : decode cX2_putIn 81 = .ok (.iload_n 1, 1) := by decide +kernel
theorem dX2_putIn_82 : decode cX2_putIn 82 = .ok (.if_icmp .lt 11, 3) := by decide +kernel
theorem dX2_putIn_85 : decode cX2_putIn 85 = .ok (.aload 10, 2) := by decide +kernel
theorem dX2_putIn_87 : decode cX2_putIn 87 = .ok (.iconst 0, 1) := by decide +kernel
theorem dX2_putIn_88 : decode cX2_putIn 88 = .ok (.dup2, 1) := by decide +kernel
theorem dX2_putIn_89 : decode cX2_putIn 89 = .ok (.iaload, 1) := by decide +kernel
theorem dX2_putIn_90 : decode cX2_putIn 90 = .ok (.iload_n 2, 1) := by decide +kernel
theorem dX2_putIn_91 : decode cX2_putIn 91 = .ok (.iadd, 1) := by decide +kernel
theorem dX2_putIn_92 : decode cX2_putIn 92 = .ok (.iastore, 1) := by decide +kernel
theorem dX2_putIn_93 : decode cX2_putIn 93 = .ok (.iinc 9 1, 3) := by decide +kernel
theorem dX2_putIn_96 : decode cX2_putIn 96 = .ok (.goto (-49), 3) := by decide +kernel
theorem dX2_putIn_99 : decode cX2_putIn 99 = .ok (.iinc 5 1, 3) := by decide +kernel
theorem dX2_putIn_102 : decode cX2_putIn 102 = .ok (.goto (-80), 3) := by decide +kernel
theorem dX2_putIn_105 : decode cX2_putIn 105 = .ok (.return_, 1) := by decide +kernel
theorem dX2_takeOut_0 : decode cX2_takeOut 0 = .ok (.aload_n 0, 1) := by decide +kernel
theorem dX2_takeOut_1 : decode cX2_takeOut 1 = .ok (.dup, 1) := by decide +kernel
theorem dX2_takeOut_2 : decode cX2_takeOut 2 = .ok (.getfield 7, 3) := by decide +kernel
theorem dX2_takeOut_5 : decode cX2_takeOut 5 = .ok (.iconst 1, 1) := by decide +kernel
theorem dX2_takeOut_6 : decode cX2_takeOut 6 = .ok (.isub, 1) := by decide +kernel
theorem dX2_takeOut_7 : decode cX2_takeOut 7 = .ok (.putfield 7, 3) := by decide +kernel
theorem dX2_takeOut_10 : decode cX2_takeOut 10 = .ok (.iconst 0, 1) := by decide +kernel
theorem dX2_takeOut_11 : decode cX2_takeOut 11 = .ok (.istore_n 2, 1) := by decide +kernel
theorem dX2_takeOut_12 : decode cX2_takeOut 12 = .ok (.iload_n 2, 1) := by decide +kernel
theorem dX2_takeOut_13 : decode cX2_takeOut 13 = .ok (.aload_n 0, 1) := by decide +kernel
theorem dX2_takeOut_14 : decode cX2_takeOut 14 = .ok (.getfield 19, 3) := by decide +kernel
theorem dX2_takeOut_17 : decode cX2_takeOut 17 = .ok (.arraylength, 1) := by decide +kernel
theorem dX2_takeOut_18 : decode cX2_takeOut 18 = .ok (.if_icmp .ge 94, 3) := by decide +kernel
theorem dX2_takeOut_21 : decode cX2_takeOut 21 = .ok (.aload_n 0, 1) := by decide +kernel
theorem dX2_takeOut_22 : decode cX2_takeOut 22 = .ok (.getfield 15, 3) := by decide +kernel
theorem dX2_takeOut_25 : decode cX2_takeOut 25 = .ok (.iload_n 2, 1) := by decide +kernel
theorem dX2_takeOut_26 : decode cX2_takeOut 26 = .ok (.aaload, 1) := by decide +kernel
theorem dX2_takeOut_27 : decode cX2_takeOut 27 = .ok (.iload_n 1, 1) := by decide +kernel
theorem dX2_takeOut_28 : decode cX2_takeOut 28 = .ok (.iload_n 1, 1) := by decide +kernel
theorem dX2_takeOut_29 : decode cX2_takeOut 29 = .ok (.invokestatic 47, 3) := by decide +kernel
theorem dX2_takeOut_32 : decode cX2_takeOut 32 = .ok (.astore_n 3, 1) := by decide +kernel
theorem dX2_takeOut_33 : decode cX2_takeOut 33 = .ok (.aload_n 3, 1) := by decide +kernel
theorem dX2_takeOut_34 : decode cX2_takeOut 34 = .ok (.astore 4, 2) := by decide +kernel
theorem dX2_takeOut_36 : decode cX2_takeOut 36 = .ok (.aload 4, 2) := by decide +kernel
theorem dX2_takeOut_38 : decode cX2_takeOut 38 = .ok (.arraylength, 1) := by decide +kernel
theorem dX2_takeOut_39 : decode cX2_takeOut 39 = .ok (.istore 5, 2) := by decide +kernel
theorem dX2_takeOut_41 : decode cX2_takeOut 41 = .ok (.iconst 0, 1) := by decide +kernel
theorem dX2_takeOut_42 : decode cX2_takeOut 42 = .ok (.istore 6, 2) := by decide +kernel
theorem dX2_takeOut_44 : decode cX2_takeOut 44 = .ok (.iload 6, 2) := by decide +kernel
theorem dX2_takeOut_46 : decode cX2_takeOut 46 = .ok (.iload 5, 2) := by decide +kernel
theorem dX2_takeOut_48 : decode cX2_takeOut 48 = .ok (.if_icmp .ge 48, 3) := by decide +kernel
theorem dX2_takeOut_51 : decode cX2_takeOut 51 = .ok (.aload 4, 2) := by decide +kernel
theorem dX2_takeOut_53 : decode cX2_takeOut 53 = .ok (.iload 6, 2) := by decide +kernel
theorem dX2_takeOut_55 : decode cX2_takeOut 55 = .ok (.aaload, 1) := by decide +kernel
theorem dX2_takeOut_56 : decode cX2_takeOut 56 = .ok (.astore 7, 2) := by decide +kernel
theorem dX2_takeOut_58 : decode cX2_takeOut 58 = .ok (.aload 7, 2) := by decide +kernel
theorem dX2_takeOut_60 : decode cX2_takeOut 60 = .ok (.iconst 0, 1) := by decide +kernel
theorem dX2_takeOut_61 : decode cX2_takeOut 61 = .ok (.iaload, 1) := by decide +kernel
theorem dX2_takeOut_62 : decode cX2_takeOut 62 = .ok (.iload_n 1, 1) := by decide +kernel
theorem dX2_takeOut_63 : decode cX2_takeOut 63 = .ok (.if_icmp .le 11, 3) := by decide +kernel
theorem dX2_takeOut_66 : decode cX2_takeOut 66 = .ok (.aload 7, 2) := by decide +kernel
theorem dX2_takeOut_68 : decode cX2_takeOut 68 = .ok (.iconst 0, 1) := by decide +kernel
theorem dX2_takeOut_69 : decode cX2_takeOut 69 = .ok (.dup2, 1) := by decide +kernel
theorem dX2_takeOut_70 : decode cX2_takeOut 70 = .ok (.iaload, 1) := by decide +kernel
theorem dX2_takeOut_71 : decode cX2_takeOut 71 = .ok (.iconst 1, 1) := by decide +kernel
theorem dX2_takeOut_72 : decode cX2_takeOut 72 = .ok (.isub, 1) := by decide +kernel
theorem dX2_takeOut_73 : decode cX2_takeOut 73 = .ok (.iastore, 1) := by decide +kernel
theorem dX2_takeOut_74 : decode cX2_takeOut 74 = .ok (.aload 7, 2) := by decide +kernel
theorem dX2_takeOut_76 : decode cX2_takeOut 76 = .ok (.iconst 1, 1) := by decide +kernel
theorem dX2_takeOut_77 : decode cX2_takeOut 77 = .ok (.iaload, 1) := by decide +kernel
theorem dX2_takeOut_78 : decode cX2_takeOut 78 = .ok (.iload_n 1, 1) := by decide +kernel
theorem dX2_takeOut_79 : decode cX2_takeOut 79 = .ok (.if_icmp .le 11, 3) := by decide +kernel
theorem dX2_takeOut_82 : decode cX2_takeOut 82 = .ok (.aload 7, 2) := by decide +kernel
theorem dX2_takeOut_84 : decode cX2_takeOut 84 = .ok (.iconst 1, 1) := by decide +kernel
theorem dX2_takeOut_85 : decode cX2_takeOut 85 = .ok (.dup2, 1) := by decide +kernel
theorem dX2_takeOut_86 : decode cX2_takeOut 86 = .ok (.iaload, 1) := by decide +kernel
theorem dX2_takeOut_87 : decode cX2_takeOut 87 = .ok (.iconst 1, 1) := by decide +kernel
theorem dX2_takeOut_88 : decode cX2_takeOut 88 = .ok (.isub, 1) := by decide +kernel
theorem dX2_takeOut_89 : decode cX2_takeOut 89 = .ok (.iastore, 1) := by decide +kernel
theorem dX2_takeOut_90 : decode cX2_takeOut 90 = .ok (.iinc 6 1, 3) := by decide +kernel
theorem dX2_takeOut_93 : decode cX2_takeOut 93 = .ok (.goto (-49), 3) := by decide +kernel
theorem dX2_takeOut_96 : decode cX2_takeOut 96 = .ok (.aload_n 0, 1) := by decide +kernel
theorem dX2_takeOut_97 : decode cX2_takeOut 97 = .ok (.getfield 15, 3) := by decide +kernel
theorem dX2_takeOut_100 : decode cX2_takeOut 100 = .ok (.iload_n 2, 1) := by decide +kernel
theorem dX2_takeOut_101 : decode cX2_takeOut 101 = .ok (.aload_n 3, 1) := by decide +kernel
theorem dX2_takeOut_102 : decode cX2_takeOut 102 = .ok (.invokestatic 51, 3) := by decide +kernel
theorem dX2_takeOut_105 : decode cX2_takeOut 105 = .ok (.aastore, 1) := by decide +kernel
theorem dX2_takeOut_106 : decode cX2_takeOut 106 = .ok (.iinc 2 1, 3) := by decide +kernel
theorem dX2_takeOut_109 : decode cX2_takeOut 109 = .ok (.goto (-97), 3) := by decide +kernel
theorem dX2_takeOut_112 : decode cX2_takeOut 112 = .ok (.return_, 1) := by decide +kernel
theorem dX2_end_0 : decode cX2_end 0 = .ok (.aload_n 0, 1) := by decide +kernel
theorem dX2_end_1 : decode cX2_end 1 = .ok (.getfield 19, 3) := by decide +kernel
theorem dX2_end_4 : decode cX2_end 4 = .ok (.arraylength, 1) := by decide +kernel
theorem dX2_end_5 : decode cX2_end 5 = .ok (.newarray .boolean, 2) := by decide +kernel
theorem dX2_end_7 : decode cX2_end 7 = .ok (.astore_n 2, 1) := by decide +kernel
theorem dX2_end_8 : decode cX2_end 8 = .ok (.iload_n 1, 1) := by decide +kernel
theorem dX2_end_9 : decode cX2_end 9 = .ok (.istore_n 3, 1) := by decide +kernel
theorem dX2_end_10 : decode cX2_end 10 = .ok (.aload_n 0, 1) := by decide +kernel
theorem dX2_end_11 : decode cX2_end 11 = .ok (.getfield 19, 3) := by decide +kernel
theorem dX2_end_14 : decode cX2_end 14 = .ok (.iload_n 3, 1) := by decide +kernel
theorem dX2_end_15 : decode cX2_end 15 = .ok (.iaload, 1) := by decide +kernel
theorem dX2_end_16 : decode cX2_end 16 = .ok (.ifCond .lt 25, 3) := by decide +kernel
theorem dX2_end_19 : decode cX2_end 19 = .ok (.aload_n 2, 1) := by decide +kernel
theorem dX2_end_20 : decode cX2_end 20 = .ok (.iload_n 3, 1) := by decide +kernel
theorem dX2_end_21 : decode cX2_end 21 = .ok (.baload, 1) := by decide +kernel
theorem dX2_end_22 : decode cX2_end 22 = .ok (.ifCond .eq 5, 3) := by decide +kernel
theorem dX2_end_25 : decode cX2_end 25 = .ok (.iconst (-1), 1) := by decide +kernel
theorem dX2_end_26 : decode cX2_end 26 = .ok (.ireturn, 1) := by decide +kernel
theorem dX2_end_27 : decode cX2_end 27 = .ok (.aload_n 2, 1) := by decide +kernel
theorem dX2_end_28 : decode cX2_end 28 = .ok (.iload_n 3, 1) := by decide +kernel
theorem dX2_end_29 : decode cX2_end 29 = .ok (.iconst 1, 1) := by decide +kernel
theorem dX2_end_30 : decode cX2_end 30 = .ok (.bastore, 1) := by decide +kernel
theorem dX2_end_31 : decode cX2_end 31 = .ok (.aload_n 0, 1) := by decide +kernel
theorem dX2_end_32 : decode cX2_end 32 = .ok (.getfield 19, 3) := by decide +kernel
theorem dX2_end_35 : decode cX2_end 35 = .ok (.iload_n 3, 1) := by decide +kernel
theorem dX2_end_36 : decode cX2_end 36 = .ok (.iaload, 1) := by decide +kernel
theorem dX2_end_37 : decode cX2_end 37 = .ok (.istore_n 3, 1) := by decide +kernel
theorem dX2_end_38 : decode cX2_end 38 = .ok (.goto (-28), 3) := by decide +kernel
theorem dX2_end_41 : decode cX2_end 41 = .ok (.iload_n 3, 1) := by decide +kernel
theorem dX2_end_42 : decode cX2_end 42 = .ok (.ireturn, 1) := by decide +kernel
theorem dX2_isSame_0 : decode cX2_isSame 0 = .ok (.aload_n 0, 1) := by decide +kernel
theorem dX2_isSame_1 : decode cX2_isSame 1 = .ok (.getfield 19, 3) := by decide +kernel
theorem dX2_isSame_4 : decode cX2_isSame 4 = .ok (.arraylength, 1) := by decide +kernel
theorem dX2_isSame_5 : decode cX2_isSame 5 = .ok (.istore_n 2, 1) := by decide +kernel
theorem dX2_isSame_6 : decode cX2_isSame 6 = .ok (.iconst 0, 1) := by decide +kernel
theorem dX2_isSame_7 : decode cX2_isSame 7 = .ok (.istore_n 3, 1) := by decide +kernel
theorem dX2_isSame_8 : decode cX2_isSame 8 = .ok (.iconst 0, 1) := by decide +kernel
theorem dX2_isSame_9 : decode cX2_isSame 9 = .ok (.istore 4, 2) := by decide +kernel
theorem dX2_isSame_11 : decode cX2_isSame 11 = .ok (.iconst 0, 1) := by decide +kernel
theorem dX2_isSame_12 : decode cX2_isSame 12 = .ok (.istore 5, 2) := by decide +kernel
theorem dX2_isSame_14 : decode cX2_isSame 14 = .ok (.iload_n 2, 1) := by decide +kernel
theorem dX2_isSame_15 : decode cX2_isSame 15 = .ok (.newarray .boolean, 2) := by decide +kernel
theorem dX2_isSame_17 : decode cX2_isSame 17 = .ok (.astore 6, 2) := by decide +kernel
theorem dX2_isSame_19 : decode cX2_isSame 19 = .ok (.iconst 0, 1) := by decide +kernel
theorem dX2_isSame_20 : decode cX2_isSame 20 = .ok (.istore 7, 2) := by decide +kernel
theorem dX2_isSame_22 : decode cX2_isSame 22 = .ok (.iload 7, 2) := by decide +kernel
theorem dX2_isSame_24 : decode cX2_isSame 24 = .ok (.iload_n 2, 1) := by decide +kernel
theorem dX2_isSame_25 : decode cX2_isSame 25 = .ok (.if_icmp .ge 281, 3) := by decide +kernel
theorem dX2_isSame_28 : decode cX2_isSame 28 = .ok (.aload_n 0, 1) := by decide +kernel
theorem dX2_isSame_29 : decode cX2_isSame 29 = .ok (.getfield 15, 3) := by decide +kernel
theorem dX2_isSame_32 : decode cX2_isSame 32 = .ok (.iload 7, 2) := by decide +kernel
theorem dX2_isSame_34 : decode cX2_isSame 34 = .ok (.aaload, 1) := by decide +kernel
theorem dX2_isSame_35 : decode cX2_isSame 35 = .ok (.astore 8, 2) := by decide +kernel
theorem dX2_isSame_37 : decode cX2_isSame 37 = .ok (.aload 8, 2) := by decide +kernel
theorem dX2_isSame_39 : decode cX2_isSame 39 = .ok (.invokestatic 55, 3) := by decide +kernel
theorem dX2_isSame_42 : decode cX2_isSame 42 = .ok (.istore 9, 2) := by decide +kernel
theorem dX2_isSame_44 : decode cX2_isSame 44 = .ok (.aload_n 1, 1) := by decide +kernel
theorem dX2_isSame_45 : decode cX2_isSame 45 = .ok (.iload 7, 2) := by decide +kernel
theorem dX2_isSame_47 : decode cX2_isSame 47 = .ok (.invokevirtual 59, 3) := by decide +kernel
theorem dX2_isSame_50 : decode cX2_isSame 50 = .ok (.aload 8, 2) := by decide +kernel
theorem dX2_isSame_52 : decode cX2_isSame 52 = .ok (.arraylength, 1) := by decide +kernel
theorem dX2_isSame_53 : decode cX2_isSame 53 = .ok (.if_icmp .ne 62, 3) := by decide +kernel
theorem dX2_isSame_56 : decode cX2_isSame 56 = .ok (.aload_n 1, 1) := by decide +kernel
theorem dX2_isSame_57 : decode cX2_isSame 57 = .ok (.iload 7, 2) := by decide +kernel
theorem dX2_isSame_59 : decode cX2_isSame 59 = .ok (.invokevirtual 65, 3) := by decide +kernel
theorem dX2_isSame_62 : decode cX2_isSame 62 = .ok (.iload 9, 2) := by decide +kernel
theorem dX2_isSame_64 : decode cX2_isSame 64 = .ok (.if_icmp .ne 51, 3) := by decide +kernel
theorem dX2_isSame_67 : decode cX2_isSame 67 = .ok (.aload_n 1, 1) := by decide +kernel
theorem dX2_isSame_68 : decode cX2_isSame 68 = .ok (.iload 7, 2) := by decide +kernel
theorem dX2_isSame_70 : decode cX2_isSame 70 = .ok (.invokevirtual 67, 3) := by decide +kernel
theorem dX2_isSame_73 : decode cX2_isSame 73 = .ok (.aload_n 0, 1) := by decide +kernel
theorem dX2_isSame_74 : decode cX2_isSame 74 = .ok (.getfield 19, 3) := by decide +kernel
theorem dX2_isSame_77 : decode cX2_isSame 77 = .ok (.iload 7, 2) := by decide +kernel
theorem dX2_isSame_79 : decode cX2_isSame 79 = .ok (.iaload, 1) := by decide +kernel
theorem dX2_isSame_80 : decode cX2_isSame 80 = .ok (.if_icmp .ne 35, 3) := by decide +kernel
theorem dX2_isSame_83 : decode cX2_isSame 83 = .ok (.aload_n 1, 1) := by decide +kernel
theorem dX2_isSame_84 : decode cX2_isSame 84 = .ok (.iload 7, 2) := by decide +kernel
theorem dX2_isSame_86 : decode cX2_isSame 86 = .ok (.invokevirtual 70, 3) := by decide +kernel
theorem dX2_isSame_89 : decode cX2_isSame 89 = .ok (.aload_n 0, 1) := by decide +kernel
theorem dX2_isSame_90 : decode cX2_isSame 90 = .ok (.getfield 24, 3) := by decide +kernel
theorem dX2_isSame_93 : decode cX2_isSame 93 = .ok (.iload 7, 2) := by decide +kernel
theorem dX2_isSame_95 : decode cX2_isSame 95 = .ok (.aaload, 1) := by decide +kernel
theorem dX2_isSame_96 : decode cX2_isSame 96 = .ok (.arraylength, 1) := by decide +kernel
theorem dX2_isSame_97 : decode cX2_isSame 97 = .ok (.if_icmp .ne 18, 3) := by decide +kernel
theorem dX2_isSame_100 : decode cX2_isSame 100 = .ok (.aload_n 1, 1) := by decide +kernel
theorem dX2_isSame_101 : decode cX2_isSame 101 = .ok (.iload 7, 2) := by decide +kernel
theorem dX2_isSame_103 : decode cX2_isSame 103 = .ok (.invokevirtual 73, 3) := by decide +kernel
theorem dX2_isSame_106 : decode cX2_isSame 106 = .ok (.aload_n 0, 1) := by decide +kernel
theorem dX2_isSame_107 : decode cX2_isSame 107 = .ok (.iload 7, 2) := by decide +kernel
theorem dX2_isSame_109 : decode cX2_isSame 109 = .ok (.invokevirtual 76, 3) := by decide +kernel
theorem dX2_isSame_112 : decode cX2_isSame 112 = .ok (.if_icmp .eq 5, 3) := by decide +kernel
theorem dX2_isSame_115 : decode cX2_isSame 115 = .ok (.iconst 0, 1) := by decide +kernel
theorem dX2_isSame_116 : decode cX2_isSame 116 = .ok (.ireturn, 1) := by decide +kernel
theorem dX2_isSame_117 : decode cX2_isSame 117 = .ok (.iconst 0, 1) := by decide +kernel
theorem dX2_isSame_118 : decode cX2_isSame 118 = .ok (.istore 10, 2) := by decide +kernel
theorem dX2_isSame_120 : decode cX2_isSame 120 = .ok (.iload 10, 2) := by decide +kernel
theorem dX2_isSame_122 : decode cX2_isSame 122 = .ok (.aload 8, 2) := by decide +kernel
theorem dX2_isSame_124 : decode cX2_isSame 124 = .ok (.arraylength, 1) := by decide +kernel
theorem dX2_isSame_125 : decode cX2_isSame 125 = .ok (.if_icmp .ge 47, 3) := by decide +kernel
theorem dX2_isSame_128 : decode cX2_isSame 128 = .ok (.aload_n 1, 1) := by decide +kernel
theorem dX2_isSame_129 : decode cX2_isSame 129 = .ok (.iload 7, 2) := by decide +kernel
theorem dX2_isSame_131 : decode cX2_isSame 131 = .ok (.iload 10, 2) := by decide +kernel
theorem dX2_isSame_133 : decode cX2_isSame 133 = .ok (.invokevirtual 79, 3) := by decide +kernel
theorem dX2_isSame_136 : decode cX2_isSame 136 = .ok (.aload 8, 2) := by decide +kernel
theorem dX2_isSame_138 : decode cX2_isSame 138 = .ok (.iload 10, 2) := by decide +kernel
theorem dX2_isSame_140 : decode cX2_isSame 140 = .ok (.aaload, 1) := by decide +kernel
theorem dX2_isSame_141 : decode cX2_isSame 141 = .ok (.iconst 0, 1) := by decide +kernel
theorem dX2_isSame_142 : decode cX2_isSame 142 = .ok (.iaload, 1) := by decide +kernel
theorem dX2_isSame_143 : decode cX2_isSame 143 = .ok (.if_icmp .ne 21, 3) := by decide +kernel
theorem dX2_isSame_146 : decode cX2_isSame 146 = .ok (.aload_n 1, 1) := by decide +kernel
theorem dX2_isSame_147 : decode cX2_isSame 147 = .ok (.iload 7, 2) := by decide +kernel
theorem dX2_isSame_149 : decode cX2_isSame 149 = .ok (.iload 10, 2) := by decide +kernel
theorem dX2_isSame_151 : decode cX2_isSame 151 = .ok (.invokevirtual 82, 3) := by decide +kernel
theorem dX2_isSame_154 : decode cX2_isSame 154 = .ok (.aload 8, 2) := by decide +kernel
theorem dX2_isSame_156 : decode cX2_isSame 156 = .ok (.iload 10, 2) := by decide +kernel
theorem dX2_isSame_158 : decode cX2_isSame 158 = .ok (.aaload, 1) := by decide +kernel
theorem dX2_isSame_159 : decode cX2_isSame 159 = .ok (.iconst 1, 1) := by decide +kernel
theorem dX2_isSame_160 : decode cX2_isSame 160 = .ok (.iaload, 1) := by decide +kernel
theorem dX2_isSame_161 : decode cX2_isSame 161 = .ok (.if_icmp .eq 5, 3) := by decide +kernel
theorem dX2_isSame_164 : decode cX2_isSame 164 = .ok (.iconst 0, 1) := by decide +kernel
theorem dX2_isSame_165 : decode cX2_isSame 165 = .ok (.ireturn, 1) := by decide +kernel
theorem dX2_isSame_166 : decode cX2_isSame 166 = .ok (.iinc 10 1, 3) := by decide +kernel
theorem dX2_isSame_169 : decode cX2_isSame 169 = .ok (.goto (-49), 3) := by decide +kernel
theorem dX2_isSame_172 : decode cX2_isSame 172 = .ok (.aload_n 0, 1) := by decide +kernel
theorem dX2_isSame_173 : decode cX2_isSame 173 = .ok (.getfield 19, 3) := by decide +kernel
theorem dX2_isSame_176 : decode cX2_isSame 176 = .ok (.iload 7, 2) := by decide +kernel
theorem dX2_isSame_178 : decode cX2_isSame 178 = .ok (.iaload, 1) := by decide +kernel
theorem dX2_isSame_179 : decode cX2_isSame 179 = .ok (.ifCond .lt 14, 3) := by decide +kernel
theorem dX2_isSame_182 : decode cX2_isSame 182 = .ok (.aload 6, 2) := by decide +kernel
theorem dX2_isSame_184 : decode cX2_isSame 184 = .ok (.aload_n 0, 1) := by decide +kernel
theorem dX2_isSame_185 : decode cX2_isSame 185 = .ok (.getfield 19, 3) := by decide +kernel
theorem dX2_isSame_188 : decode cX2_isSame 188 = .ok (.iload 7, 2) := by decide +kernel
theorem dX2_isSame_190 : decode cX2_isSame 190 = .ok (.iaload, 1) := by decide +kernel
theorem dX2_isSame_191 : decode cX2_isSame 191 = .ok (.iconst 1, 1) := by decide +kernel
theorem dX2_isSame_192 : decode cX2_isSame 192 = .ok (.bastore, 1) := by decide +kernel
theorem dX2_isSame_193 : decode cX2_isSame 193 = .ok (.aload_n 0, 1) := by decide +kernel
theorem dX2_isSame_194 : decode cX2_isSame 194 = .ok (.getfield 24, 3) := by decide +kernel
theorem dX2_isSame_197 : decode cX2_isSame 197 = .ok (.iload 7, 2) := by decide +kernel
theorem dX2_isSame_199 : decode cX2_isSame 199 = .ok (.aaload, 1) := by decide +kernel
theorem dX2_isSame_200 : decode cX2_isSame 200 = .ok (.astore 10, 2) := by decide +kernel
theorem dX2_isSame_202 : decode cX2_isSame 202 = .ok (.aload 10, 2) := by decide +kernel
theorem dX2_isSame_204 : decode cX2_isSame 204 = .ok (.arraylength, 1) := by decide +kernel
theorem dX2_isSame_205 : decode cX2_isSame 205 = .ok (.istore 11, 2) := by decide +kernel
theorem dX2_isSame_207 : decode cX2_isSame 207 = .ok (.iconst 0, 1) := by decide +kernel
theorem dX2_isSame_208 : decode cX2_isSame 208 = .ok (.istore 12, 2) := by decide +kernel
theorem dX2_isSame_210 : decode cX2_isSame 210 = .ok (.iload 12, 2) := by decide +kernel
theorem dX2_isSame_212 : decode cX2_isSame 212 = .ok (.iload 11, 2) := by decide +kernel
theorem dX2_isSame_214 : decode cX2_isSame 214 = .ok (.if_icmp .ge 22, 3) := by decide +kernel
theorem dX2_isSame_217 : decode cX2_isSame 217 = .ok (.aload 10, 2) := by decide +kernel
theorem dX2_isSame_219 : decode cX2_isSame 219 = .ok (.iload 12, 2) := by decide +kernel
theorem dX2_isSame_221 : decode cX2_isSame 221 = .ok (.iaload, 1) := by decide +kernel
theorem dX2_isSame_222 : decode cX2_isSame 222 = .ok (.istore 13, 2) := by decide +kernel
theorem dX2_isSame_224 : decode cX2_isSame 224 = .ok (.aload 6, 2) := by decide +kernel
theorem dX2_isSame_226 : decode cX2_isSame 226 = .ok (.iload 13, 2) := by decide +kernel
theorem dX2_isSame_228 : decode cX2_isSame 228 = .ok (.iconst 1, 1) := by decide +kernel
theorem dX2_isSame_229 : decode cX2_isSame 229 = .ok (.bastore, 1) := by decide +kernel
theorem dX2_isSame_230 : decode cX2_isSame 230 = .ok (.iinc 12 1, 3) := by decide +kernel
theorem dX2_isSame_233 : decode cX2_isSame 233 = .ok (.goto (-23), 3) := by decide +kernel
theorem dX2_isSame_236 : decode cX2_isSame 236 = .ok (.iload_n 3, 1) := by decide +kernel
theorem dX2_isSame_237 : decode cX2_isSame 237 = .ok (.aload_n 0, 1) := by decide +kernel
theorem dX2_isSame_238 : decode cX2_isSame 238 = .ok (.getfield 19, 3) := by decide +kernel
theorem dX2_isSame_241 : decode cX2_isSame 241 = .ok (.iload 7, 2) := by decide +kernel
theorem dX2_isSame_243 : decode cX2_isSame 243 = .ok (.iaload, 1) := by decide +kernel
theorem dX2_isSame_244 : decode cX2_isSame 244 = .ok (.ifCond .lt 31, 3) := by decide +kernel
theorem dX2_isSame_247 : decode cX2_isSame 247 = .ok (.aload_n 0, 1) := by decide +kernel
theorem dX2_isSame_248 : decode cX2_isSame 248 = .ok (.iload 7, 2) := by decide +kernel
theorem dX2_isSame_250 : decode cX2_isSame 250 = .ok (.invokevirtual 76, 3) := by decide +kernel
theorem dX2_isSame_253 : decode cX2_isSame 253 = .ok (.ifCond .lt 18, 3) := by decide +kernel
theorem dX2_isSame_256 : decode cX2_isSame 256 = .ok (.aload_n 0, 1) := by decide +kernel
theorem dX2_isSame_257 : decode cX2_isSame 257 = .ok (.getfield 15, 3) := by decide +kernel
theorem dX2_isSame_260 : decode cX2_isSame 260 = .ok (.aload_n 0, 1) := by decide +kernel
theorem dX2_isSame_261 : decode cX2_isSame 261 = .ok (.iload 7, 2) := by decide +kernel
theorem dX2_isSame_263 : decode cX2_isSame 263 = .ok (.invokevirtual 76, 3) := by decide +kernel
theorem dX2_isSame_266 : decode cX2_isSame 266 = .ok (.aaload, 1) := by decide +kernel
theorem dX2_isSame_267 : decode cX2_isSame 267 = .ok (.arraylength, 1) := by decide +kernel
theorem dX2_isSame_268 : decode cX2_isSame 268 = .ok (.ifCond .ne 7, 3) := by decide +kernel
theorem dX2_isSame_271 : decode cX2_isSame 271 = .ok (.iconst 1, 1) := by decide +kernel
theorem dX2_isSame_272 : decode cX2_isSame 272 = .ok (.goto 4, 3) := by decide +kernel
theorem dX2_isSame_275 : decode cX2_isSame 275 = .ok (.iconst 0, 1) := by decide +kernel
theorem dX2_isSame_276 : decode cX2_isSame 276 = .ok (.iadd, 1) := by decide +kernel
theorem dX2_isSame_277 : decode cX2_isSame 277 = .ok (.istore_n 3, 1) := by decide +kernel
theorem dX2_isSame_278 : decode cX2_isSame 278 = .ok (.iload 4, 2) := by decide +kernel
theorem dX2_isSame_280 : decode cX2_isSame 280 = .ok (.iload 9, 2) := by decide +kernel
theorem dX2_isSame_282 : decode cX2_isSame 282 = .ok (.iadd, 1) := by decide +kernel
theorem dX2_isSame_283 : decode cX2_isSame 283 = .ok (.istore 4, 2) := by decide +kernel
theorem dX2_isSame_285 : decode cX2_isSame 285 = .ok (.iload 5, 2) := by decide +kernel
theorem dX2_isSame_287 : decode cX2_isSame 287 = .ok (.iload 9, 2) := by decide +kernel
theorem dX2_isSame_289 : decode cX2_isSame 289 = .ok (.ifCond .le 7, 3) := by decide +kernel
theorem dX2_isSame_292 : decode cX2_isSame 292 = .ok (.iconst 1, 1) := by decide +kernel
theorem dX2_isSame_293 : decode cX2_isSame 293 = .ok (.goto 4, 3) := by decide +kernel
theorem dX2_isSame_296 : decode cX2_isSame 296 = .ok (.iconst 0, 1) := by decide +kernel
theorem dX2_isSame_297 : decode cX2_isSame 297 = .ok (.iadd, 1) := by decide +kernel
theorem dX2_isSame_298 : decode cX2_isSame 298 = .ok (.istore 5, 2) := by decide +kernel
theorem dX2_isSame_300 : decode cX2_isSame 300 = .ok (.iinc 7 1, 3) := by decide +kernel
theorem dX2_isSame_303 : decode cX2_isSame 303 = .ok (.goto (-281), 3) := by decide +kernel
theorem dX2_isSame_306 : decode cX2_isSame 306 = .ok (.iconst 0, 1) := by decide +kernel
theorem dX2_isSame_307 : decode cX2_isSame 307 = .ok (.istore 7, 2) := by decide +kernel
theorem dX2_isSame_309 : decode cX2_isSame 309 = .ok (.aload_n 0, 1) := by decide +kernel
theorem dX2_isSame_310 : decode cX2_isSame 310 = .ok (.getfield 7, 3) := by decide +kernel
theorem dX2_isSame_313 : decode cX2_isSame 313 = .ok (.istore 8, 2) := by decide +kernel
theorem dX2_isSame_315 : decode cX2_isSame 315 = .ok (.aload_n 0, 1) := by decide +kernel
theorem dX2_isSame_316 : decode cX2_isSame 316 = .ok (.getfield 7, 3) := by decide +kernel
theorem dX2_isSame_319 : decode cX2_isSame 319 = .ok (.istore 9, 2) := by decide +kernel
theorem dX2_isSame_321 : decode cX2_isSame 321 = .ok (.iload 9, 2) := by decide +kernel
theorem dX2_isSame_323 : decode cX2_isSame 323 = .ok (.ifCond .le 72, 3) := by decide +kernel
theorem dX2_isSame_326 : decode cX2_isSame 326 = .ok (.aload_n 0, 1) := by decide +kernel
theorem dX2_isSame_327 : decode cX2_isSame 327 = .ok (.iload 9, 2) := by decide +kernel
theorem dX2_isSame_329 : decode cX2_isSame 329 = .ok (.invokevirtual 85, 3) := by decide +kernel
theorem dX2_isSame_332 : decode cX2_isSame 332 = .ok (.istore 10, 2) := by decide +kernel
theorem dX2_isSame_334 : decode cX2_isSame 334 = .ok (.iload 7, 2) := by decide +kernel
theorem dX2_isSame_336 : decode cX2_isSame 336 = .ok (.iload 10, 2) := by decide +kernel
theorem dX2_isSame_338 : decode cX2_isSame 338 = .ok (.ifCond .ne 7, 3) := by decide +kernel
theorem dX2_isSame_341 : decode cX2_isSame 341 = .ok (.iconst 1, 1) := by decide +kernel
theorem dX2_isSame_342 : decode cX2_isSame 342 = .ok (.goto 4, 3) := by decide +kernel
theorem dX2_isSame_345 : decode cX2_isSame 345 = .ok (.iconst 0, 1) := by decide +kernel
theorem dX2_isSame_346 : decode cX2_isSame 346 = .ok (.iadd, 1) := by decide +kernel
theorem dX2_isSame_347 : decode cX2_isSame 347 = .ok (.istore 7, 2) := by decide +kernel
theorem dX2_isSame_349 : decode cX2_isSame 349 = .ok (.iload 10, 2) := by decide +kernel
theorem dX2_isSame_351 : decode cX2_isSame 351 = .ok (.aload_n 0, 1) := by decide +kernel
theorem dX2_isSame_352 : decode cX2_isSame 352 = .ok (.iload 8, 2) := by decide +kernel
theorem dX2_isSame_354 : decode cX2_isSame 354 = .ok (.invokevirtual 85, 3) := by decide +kernel
theorem dX2_isSame_357 : decode cX2_isSame 357 = .ok (.if_icmp .lt 7, 3) := by decide +kernel
theorem dX2_isSame_360 : decode cX2_isSame 360 = .ok (.iload 9, 2) := by decide +kernel
theorem dX2_isSame_362 : decode cX2_isSame 362 = .ok (.istore 8, 2) := by decide +kernel
theorem dX2_isSame_364 : decode cX2_isSame 364 = .ok (.iload 9, 2) := by decide +kernel
theorem dX2_isSame_366 : decode cX2_isSame 366 = .ok (.bipush 9, 2) := by decide +kernel
theorem dX2_isSame_368 : decode cX2_isSame 368 = .ok (.irem, 1) := by decide +kernel
theorem dX2_isSame_369 : decode cX2_isSame 369 = .ok (.iload_n 2, 1) := by decide +kernel
theorem dX2_isSame_370 : decode cX2_isSame 370 = .ok (.bipush 9, 2) := by decide +kernel
theorem dX2_isSame_372 : decode cX2_isSame 372 = .ok (.irem, 1) := by decide +kernel
theorem dX2_isSame_373 : decode cX2_isSame 373 = .ok (.if_icmp .ne 16, 3) := by decide +kernel
theorem dX2_isSame_376 : decode cX2_isSame 376 = .ok (.aload_n 1, 1) := by decide +kernel
theorem dX2_isSame_377 : decode cX2_isSame 377 = .ok (.iload 9, 2) := by decide +kernel
theorem dX2_isSame_379 : decode cX2_isSame 379 = .ok (.invokevirtual 88, 3) := by decide +kernel
theorem dX2_isSame_382 : decode cX2_isSame 382 = .ok (.iload 10, 2) := by decide +kernel
theorem dX2_isSame_384 : decode cX2_isSame 384 = .ok (.if_icmp .eq 5, 3) := by decide +kernel
theorem dX2_isSame_387 : decode cX2_isSame 387 = .ok (.iconst 0, 1) := by decide +kernel
theorem dX2_isSame_388 : decode cX2_isSame 388 = .ok (.ireturn, 1) := by decide +kernel
theorem dX2_isSame_389 : decode cX2_isSame 389 = .ok (.iinc 9 (-1), 3) := by decide +kernel
theorem dX2_isSame_392 : decode cX2_isSame 392 = .ok (.goto (-71), 3) := by decide +kernel
theorem dX2_isSame_395 : decode cX2_isSame 395 = .ok (.iconst 0, 1) := by decide +kernel
theorem dX2_isSame_396 : decode cX2_isSame 396 = .ok (.istore 9, 2) := by decide +kernel
theorem dX2_isSame_398 : decode cX2_isSame 398 = .ok (.iconst 0, 1) := by decide +kernel
theorem dX2_isSame_399 : decode cX2_isSame 399 = .ok (.istore 10, 2) := by decide +kernel
theorem dX2_isSame_401 : decode cX2_isSame 401 = .ok (.iload 10, 2) := by decide +kernel
theorem dX2_isSame_403 : decode cX2_isSame 403 = .ok (.iload_n 2, 1) := by decide +kernel
theorem dX2_isSame_404 : decode cX2_isSame 404 = .ok (.if_icmp .ge 27, 3) := by decide +kernel
theorem dX2_isSame_407 : decode cX2_isSame 407 = .ok (.iload 9, 2) := by decide +kernel
theorem dX2_isSame_409 : decode cX2_isSame 409 = .ok (.aload 6, 2) := by decide +kernel
theorem dX2_isSame_411 : decode cX2_isSame 411 = .ok (.iload 10, 2) := by decide +kernel
theorem dX2_isSame_413 : decode cX2_isSame 413 = .ok (.baload, 1) := by decide +kernel
theorem dX2_isSame_414 : decode cX2_isSame 414 = .ok (.ifCond .eq 7, 3) := by decide +kernel
theorem dX2_isSame_417 : decode cX2_isSame 417 = .ok (.iconst 0, 1) := by decide +kernel
theorem dX2_isSame_418 : decode cX2_isSame 418 = .ok (.goto 4, 3) := by decide +kernel
theorem dX2_isSame_421 : decode cX2_isSame 421 = .ok (.iconst 1, 1) := by decide +kernel
theorem dX2_isSame_422 : decode cX2_isSame 422 = .ok (.iadd, 1) := by decide +kernel
theorem dX2_isSame_423 : decode cX2_isSame 423 = .ok (.istore 9, 2) := by decide +kernel
theorem dX2_isSame_425 : decode cX2_isSame 425 = .ok (.iinc 10 1, 3) := by decide +kernel
theorem dX2_isSame_428 : decode cX2_isSame 428 = .ok (.goto (-27), 3) := by decide +kernel
theorem dX2_isSame_431 : decode cX2_isSame 431 = .ok (.aload_n 1, 1) := by decide +kernel
theorem dX2_isSame_432 : decode cX2_isSame 432 = .ok (.invokevirtual 91, 3) := by decide +kernel
theorem dX2_isSame_435 : decode cX2_isSame 435 = .ok (.aload_n 0, 1) := by decide +kernel
theorem dX2_isSame_436 : decode cX2_isSame 436 = .ok (.getfield 7, 3) := by decide +kernel
theorem dX2_isSame_439 : decode cX2_isSame 439 = .ok (.if_icmp .ne 74, 3) := by decide +kernel
theorem dX2_isSame_442 : decode cX2_isSame 442 = .ok (.aload_n 1, 1) := by decide +kernel
theorem dX2_isSame_443 : decode cX2_isSame 443 = .ok (.invokevirtual 95, 3) := by decide +kernel
theorem dX2_isSame_446 : decode cX2_isSame 446 = .ok (.iload_n 2, 1) := by decide +kernel
theorem dX2_isSame_447 : decode cX2_isSame 447 = .ok (.if_icmp .ne 66, 3) := by decide +kernel
theorem dX2_isSame_450 : decode cX2_isSame 450 = .ok (.aload_n 1, 1) := by decide +kernel
theorem dX2_isSame_451 : decode cX2_isSame 451 = .ok (.invokevirtual 98, 3) := by decide +kernel
theorem dX2_isSame_454 : decode cX2_isSame 454 = .ok (.iload 7, 2) := by decide +kernel
theorem dX2_isSame_456 : decode cX2_isSame 456 = .ok (.if_icmp .ne 57, 3) := by decide +kernel
theorem dX2_isSame_459 : decode cX2_isSame 459 = .ok (.aload_n 1, 1) := by decide +kernel
theorem dX2_isSame_460 : decode cX2_isSame 460 = .ok (.invokevirtual 101, 3) := by decide +kernel
theorem dX2_isSame_463 : decode cX2_isSame 463 = .ok (.iload 8, 2) := by decide +kernel
theorem dX2_isSame_465 : decode cX2_isSame 465 = .ok (.if_icmp .ne 48, 3) := by decide +kernel
theorem dX2_isSame_468 : decode cX2_isSame 468 = .ok (.aload_n 1, 1) := by decide +kernel
theorem dX2_isSame_469 : decode cX2_isSame 469 = .ok (.invokevirtual 104, 3) := by decide +kernel
theorem dX2_isSame_472 : decode cX2_isSame 472 = .ok (.iload_n 3, 1) := by decide +kernel
theorem dX2_isSame_473 : decode cX2_isSame 473 = .ok (.if_icmp .ne 40, 3) := by decide +kernel
theorem dX2_isSame_476 : decode cX2_isSame 476 = .ok (.aload_n 1, 1) := by decide +kernel
theorem dX2_isSame_477 : decode cX2_isSame 477 = .ok (.invokevirtual 107, 3) := by decide +kernel
theorem dX2_isSame_480 : decode cX2_isSame 480 = .ok (.iload 9, 2) := by decide +kernel
theorem dX2_isSame_482 : decode cX2_isSame 482 = .ok (.if_icmp .ne 31, 3) := by decide +kernel
theorem dX2_isSame_485 : decode cX2_isSame 485 = .ok (.aload_n 1, 1) := by decide +kernel
theorem dX2_isSame_486 : decode cX2_isSame 486 = .ok (.invokevirtual 110, 3) := by decide +kernel
theorem dX2_isSame_489 : decode cX2_isSame 489 = .ok (.iload 5, 2) := by decide +kernel
theorem dX2_isSame_491 : decode cX2_isSame 491 = .ok (.ifCond .ne 7, 3) := by decide +kernel
theorem dX2_isSame_494 : decode cX2_isSame 494 = .ok (.dconst 0, 1) := by decide +kernel
theorem dX2_isSame_495 : decode cX2_isSame 495 = .ok (.goto 10, 3) := by decide +kernel
theorem dX2_isSame_498 : decode cX2_isSame 498 = .ok (.iload 4, 2) := by decide +kernel
theorem dX2_isSame_500 : decode cX2_isSame 500 = .ok (.i2d, 1) := by decide +kernel
theorem dX2_isSame_501 : decode cX2_isSame 501 = .ok (.iload 5, 2) := by decide +kernel
theorem dX2_isSame_503 : decode cX2_isSame 503 = .ok (.i2d, 1) := by decide +kernel
theorem dX2_isSame_504 : decode cX2_isSame 504 = .ok (.ddiv, 1) := by decide +kernel
theorem dX2_isSame_505 : decode cX2_isSame 505 = .ok (.dcmp .l, 1) := by decide +kernel
theorem dX2_isSame_506 : decode cX2_isSame 506 = .ok (.ifCond .ne 7, 3) := by decide +kernel
theorem dX2_isSame_509 : decode cX2_isSame 509 = .ok (.iconst 1, 1) := by decide +kernel
theorem dX2_isSame_510 : decode cX2_isSame 510 = .ok (.goto 4, 3) := by decide +kernel
theorem dX2_isSame_513 : decode cX2_isSame 513 = .ok (.iconst 0, 1) := by decide +kernel
theorem dX2_isSame_514 : decode cX2_isSame 514 = .ok (.ireturn, 1) := by decide +kernel
theorem dJ6_bitCount_0f7a4_0 : decode cJ6_bitCount_0f7a4 0 = .ok (.iload_n 0, 1) := by decide +kernel
theorem dJ6_bitCount_0f7a4_1 : decode cJ6_bitCount_0f7a4 1 = .ok (.iload_n 0, 1) := by decide +kernel
theorem dJ6_bitCount_0f7a4_2 : decode cJ6_bitCount_0f7a4 2 = .ok (.iconst 1, 1) := by decide +kernel
theorem dJ6_bitCount_0f7a4_3 : decode cJ6_bitCount_0f7a4 3 = .ok (.iushr, 1) := by decide +kernel
theorem dJ6_bitCount_0f7a4_4 : decode cJ6_bitCount_0f7a4 4 = .ok (.ldc_w 265, 3) := by decide +kernel
theorem dJ6_bitCount_0f7a4_7 : decode cJ6_bitCount_0f7a4 7 = .ok (.iand, 1) := by decide +kernel
theorem dJ6_bitCount_0f7a4_8 : decode cJ6_bitCount_0f7a4 8 = .ok (.isub, 1) := by decide +kernel
theorem dJ6_bitCount_0f7a4_9 : decode cJ6_bitCount_0f7a4 9 = .ok (.istore_n 0, 1) := by decide +kernel
theorem dJ6_bitCount_0f7a4_10 : decode cJ6_bitCount_0f7a4 10 = .ok (.iload_n 0, 1) := by decide +kernel
theorem dJ6_bitCount_0f7a4_11 : decode cJ6_bitCount_0f7a4 11 = .ok (.ldc_w 266, 3) := by decide +kernel
theorem dJ6_bitCount_0f7a4_14 : decode cJ6_bitCount_0f7a4 14 = .ok (.iand, 1) := by decide +kernel
theorem dJ6_bitCount_0f7a4_15 : decode cJ6_bitCount_0f7a4 15 = .ok (.iload_n 0, 1) := by decide +kernel
theorem dJ6_bitCount_0f7a4_16 : decode cJ6_bitCount_0f7a4 16 = .ok (.iconst 2, 1) := by decide +kernel
theorem dJ6_bitCount_0f7a4_17 : decode cJ6_bitCount_0f7a4 17 = .ok (.iushr, 1) := by decide +kernel
theorem dJ6_bitCount_0f7a4_18 : decode cJ6_bitCount_0f7a4 18 = .ok (.ldc_w 266, 3) := by decide +kernel
theorem dJ6_bitCount_0f7a4_21 : decode cJ6_bitCount_0f7a4 21 = .ok (.iand, 1) := by decide +kernel
theorem dJ6_bitCount_0f7a4_22 : decode cJ6_bitCount_0f7a4 22 = .ok (.iadd, 1) := by decide +kernel
theorem dJ6_bitCount_0f7a4_23 : decode cJ6_bitCount_0f7a4 23 = .ok (.istore_n 0, 1) := by decide +kernel
theorem dJ6_bitCount_0f7a4_24 : decode cJ6_bitCount_0f7a4 24 = .ok (.iload_n 0, 1) := by decide +kernel
theorem dJ6_bitCount_0f7a4_25 : decode cJ6_bitCount_0f7a4 25 = .ok (.iload_n 0, 1) := by decide +kernel
theorem dJ6_bitCount_0f7a4_26 : decode cJ6_bitCount_0f7a4 26 = .ok (.iconst 4, 1) := by decide +kernel
theorem dJ6_bitCount_0f7a4_27 : decode cJ6_bitCount_0f7a4 27 = .ok (.iushr, 1) := by decide +kernel
theorem dJ6_bitCount_0f7a4_28 : decode cJ6_bitCount_0f7a4 28 = .ok (.iadd, 1) := by decide +kernel
theorem dJ6_bitCount_0f7a4_29 : decode cJ6_bitCount_0f7a4 29 = .ok (.ldc_w 267, 3) := by decide +kernel
theorem dJ6_bitCount_0f7a4_32 : decode cJ6_bitCount_0f7a4 32 = .ok (.iand, 1) := by decide +kernel
theorem dJ6_bitCount_0f7a4_33 : decode cJ6_bitCount_0f7a4 33 = .ok (.istore_n 0, 1) := by decide +kernel
theorem dJ6_bitCount_0f7a4_34 : decode cJ6_bitCount_0f7a4 34 = .ok (.iload_n 0, 1) := by decide +kernel
theorem dJ6_bitCount_0f7a4_35 : decode cJ6_bitCount_0f7a4 35 = .ok (.iload_n 0, 1) := by decide +kernel
theorem dJ6_bitCount_0f7a4_36 : decode cJ6_bitCount_0f7a4 36 = .ok (.bipush 8, 2) := by decide +kernel
theorem dJ6_bitCount_0f7a4_38 : decode cJ6_bitCount_0f7a4 38 = .ok (.iushr, 1) := by decide +kernel
theorem dJ6_bitCount_0f7a4_39 : decode cJ6_bitCount_0f7a4 39 = .ok (.iadd, 1) := by decide +kernel
theorem dJ6_bitCount_0f7a4_40 : decode cJ6_bitCount_0f7a4 40 = .ok (.istore_n 0, 1) := by decide +kernel
theorem dJ6_bitCount_0f7a4_41 : decode cJ6_bitCount_0f7a4 41 = .ok (.iload_n 0, 1) := by decide +kernel
theorem dJ6_bitCount_0f7a4_42 : decode cJ6_bitCount_0f7a4 42 = .ok (.iload_n 0, 1) := by decide +kernel
theorem dJ6_bitCount_0f7a4_43 : decode cJ6_bitCount_0f7a4 43 = .ok (.bipush 16, 2) := by decide +kernel
theorem dJ6_bitCount_0f7a4_45 : decode cJ6_bitCount_0f7a4 45 = .ok (.iushr, 1) := by decide +kernel
theorem dJ6_bitCount_0f7a4_46 : decode cJ6_bitCount_0f7a4 46 = .ok (.iadd, 1) := by decide +kernel
theorem dJ6_bitCount_0f7a4_47 : decode cJ6_bitCount_0f7a4 47 = .ok (.istore_n 0, 1) := by decide +kernel
theorem dJ6_bitCount_0f7a4_48 : decode cJ6_bitCount_0f7a4 48 = .ok (.iload_n 0, 1) := by decide +kernel
theorem dJ6_bitCount_0f7a4_49 : decode cJ6_bitCount_0f7a4 49 = .ok (.bipush 63, 2) := by decide +kernel
theorem dJ6_bitCount_0f7a4_51 : decode cJ6_bitCount_0f7a4 51 = .ok (.iand, 1) := by decide +kernel
theorem dJ6_bitCount_0f7a4_52 : decode cJ6_bitCount_0f7a4 52 = .ok (.ireturn, 1) := by decide +kernel
theorem dJ9_max_7cf53_0 : decode cJ9_max_7cf53 0 = .ok (.iload_n 0, 1) := by decide +kernel
theorem dJ9_max_7cf53_1 : decode cJ9_max_7cf53 1 = .ok (.iload_n 1, 1) := by decide +kernel
theorem dJ9_max_7cf53_2 : decode cJ9_max_7cf53 2 = .ok (.if_icmp .lt 7, 3) := by decide +kernel
theorem dJ9_max_7cf53_5 : decode cJ9_max_7cf53 5 = .ok (.iload_n 0, 1) := by decide +kernel
theorem dJ9_max_7cf53_6 : decode cJ9_max_7cf53 6 = .ok (.goto 4, 3) := by decide +kernel
theorem dJ9_max_7cf53_9 : decode cJ9_max_7cf53 9 = .ok (.iload_n 1, 1) := by decide +kernel
theorem dJ9_max_7cf53_10 : decode cJ9_max_7cf53 10 = .ok (.ireturn, 1) := by decide +kernel
theorem dJ9_min_7cf53_0 : decode cJ9_min_7cf53 0 = .ok (.iload_n 0, 1) := by decide +kernel
theorem dJ9_min_7cf53_1 : decode cJ9_min_7cf53 1 = .ok (.iload_n 1, 1) := by decide +kernel
theorem dJ9_min_7cf53_2 : decode cJ9_min_7cf53 2 = .ok (.if_icmp .gt 7, 3) := by decide +kernel
theorem dJ9_min_7cf53_5 : decode cJ9_min_7cf53 5 = .ok (.iload_n 0, 1) := by decide +kernel
theorem dJ9_min_7cf53_6 : decode cJ9_min_7cf53 6 = .ok (.goto 4, 3) := by decide +kernel
theorem dJ9_min_7cf53_9 : decode cJ9_min_7cf53 9 = .ok (.iload_n 1, 1) := by decide +kernel
theorem dJ9_min_7cf53_10 : decode cJ9_min_7cf53 10 = .ok (.ireturn, 1) := by decide +kernel
