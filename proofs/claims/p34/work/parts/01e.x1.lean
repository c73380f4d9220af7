theorem dX1_spansTogether_15 : decode cX1_spansTogether 15 = .ok (.iload_n 1, 1) := by decide +kernel
theorem dX1_spansTogether_16 : decode cX1_spansTogether 16 = .ok (.invokevirtual 64, 3) := by decide +kernel
theorem dX1_spansTogether_19 : decode cX1_spansTogether 19 = .ok (.aload_n 0, 1) := by decide +kernel
theorem dX1_spansTogether_20 : decode cX1_spansTogether 20 = .ok (.iload_n 2, 1) := by decide +kernel
theorem dX1_spansTogether_21 : decode cX1_spansTogether 21 = .ok (.invokevirtual 64, 3) := by decide +kernel
theorem dX1_spansTogether_24 : decode cX1_spansTogether 24 = .ok (.invokevirtual 71, 3) := by decide +kernel
theorem dX1_spansTogether_27 : decode cX1_spansTogether 27 = .ok (.aload_n 0, 1) := by decide +kernel
theorem dX1_spansTogether_28 : decode cX1_spansTogether 28 = .ok (.getfield 30, 3) := by decide +kernel
theorem dX1_spansTogether_31 : decode cX1_spansTogether 31 = .ok (.invokevirtual 82, 3) := by decide +kernel
theorem dX1_spansTogether_34 : decode cX1_spansTogether 34 = .ok (.ireturn, 1) := by decide +kernel
theorem dX1_meanPages_0 : decode cX1_meanPages 0 = .ok (.iconst 0, 1) := by decide +kernel
theorem dX1_meanPages_1 : decode cX1_meanPages 1 = .ok (.istore_n 1, 1) := by decide +kernel
theorem dX1_meanPages_2 : decode cX1_meanPages 2 = .ok (.iconst 0, 1) := by decide +kernel
theorem dX1_meanPages_3 : decode cX1_meanPages 3 = .ok (.istore_n 2, 1) := by decide +kernel
theorem dX1_meanPages_4 : decode cX1_meanPages 4 = .ok (.iconst 0, 1) := by decide +kernel
theorem dX1_meanPages_5 : decode cX1_meanPages 5 = .ok (.istore_n 3, 1) := by decide +kernel
theorem dX1_meanPages_6 : decode cX1_meanPages 6 = .ok (.iload_n 3, 1) := by decide +kernel
theorem dX1_meanPages_7 : decode cX1_meanPages 7 = .ok (.aload_n 0, 1) := by decide +kernel
theorem dX1_meanPages_8 : decode cX1_meanPages 8 = .ok (.getfield 36, 3) := by decide +kernel
theorem dX1_meanPages_11 : decode cX1_meanPages 11 = .ok (.if_icmp .ge 32, 3) := by decide +kernel
theorem dX1_meanPages_14 : decode cX1_meanPages 14 = .ok (.aload_n 0, 1) := by decide +kernel
theorem dX1_meanPages_15 : decode cX1_meanPages 15 = .ok (.iload_n 3, 1) := by decide +kernel
theorem dX1_meanPages_16 : decode cX1_meanPages 16 = .ok (.invokevirtual 64, 3) := by decide +kernel
theorem dX1_meanPages_19 : decode cX1_meanPages 19 = .ok (.invokevirtual 90, 3) := by decide +kernel
theorem dX1_meanPages_22 : decode cX1_meanPages 22 = .ok (.istore 4, 2) := by decide +kernel
theorem dX1_meanPages_24 : decode cX1_meanPages 24 = .ok (.iload 4, 2) := by decide +kernel
theorem dX1_meanPages_26 : decode cX1_meanPages 26 = .ok (.ifCond .le 11, 3) := by decide +kernel
theorem dX1_meanPages_29 : decode cX1_meanPages 29 = .ok (.iload_n 1, 1) := by decide +kernel
theorem dX1_meanPages_30 : decode cX1_meanPages 30 = .ok (.iload 4, 2) := by decide +kernel
theorem dX1_meanPages_32 : decode cX1_meanPages 32 = .ok (.iadd, 1) := by decide +kernel
theorem dX1_meanPages_33 : decode cX1_meanPages 33 = .ok (.istore_n 1, 1) := by decide +kernel
theorem dX1_meanPages_34 : decode cX1_meanPages 34 = .ok (.iinc 2 1, 3) := by decide +kernel
theorem dX1_meanPages_37 : decode cX1_meanPages 37 = .ok (.iinc 3 1, 3) := by decide +kernel
theorem dX1_meanPages_40 : decode cX1_meanPages 40 = .ok (.goto (-34), 3) := by decide +kernel
theorem dX1_meanPages_43 : decode cX1_meanPages 43 = .ok (.iload_n 2, 1) := by decide +kernel
theorem dX1_meanPages_44 : decode cX1_meanPages 44 = .ok (.ifCond .ne 7, 3) := by decide +kernel
theorem dX1_meanPages_47 : decode cX1_meanPages 47 = .ok (.dconst 0, 1) := by decide +kernel
theorem dX1_meanPages_48 : decode cX1_meanPages 48 = .ok (.goto 8, 3) := by decide +kernel
theorem dX1_meanPages_51 : decode cX1_meanPages 51 = .ok (.iload_n 1, 1) := by decide +kernel
theorem dX1_meanPages_52 : decode cX1_meanPages 52 = .ok (.i2d, 1) := by decide +kernel
theorem dX1_meanPages_53 : decode cX1_meanPages 53 = .ok (.iload_n 2, 1) := by decide +kernel
theorem dX1_meanPages_54 : decode cX1_meanPages 54 = .ok (.i2d, 1) := by decide +kernel
theorem dX1_meanPages_55 : decode cX1_meanPages 55 = .ok (.ddiv, 1) := by decide +kernel
theorem dX1_meanPages_56 : decode cX1_meanPages 56 = .ok (.dreturn, 1) := by decide +kernel
theorem dX1_digest_0 : decode cX1_digest 0 = .ok (.ldc2_w 179, 3) := by decide +kernel
theorem dX1_digest_3 : decode cX1_digest 3 = .ok (.lstore_n 1, 1) := by decide +kernel
theorem dX1_digest_4 : decode cX1_digest 4 = .ok (.lload_n 1, 1) := by decide +kernel
theorem dX1_digest_5 : decode cX1_digest 5 = .ok (.aload_n 0, 1) := by decide +kernel
theorem dX1_digest_6 : decode cX1_digest 6 = .ok (.invokevirtual 181, 3) := by decide +kernel
theorem dX1_digest_9 : decode cX1_digest 9 = .ok (.i2l, 1) := by decide +kernel
theorem dX1_digest_10 : decode cX1_digest 10 = .ok (.invokestatic 184, 3) := by decide +kernel
theorem dX1_digest_13 : decode cX1_digest 13 = .ok (.lstore_n 1, 1) := by decide +kernel
theorem dX1_digest_14 : decode cX1_digest 14 = .ok (.lload_n 1, 1) := by decide +kernel
theorem dX1_digest_15 : decode cX1_digest 15 = .ok (.aload_n 0, 1) := by decide +kernel
theorem dX1_digest_16 : decode cX1_digest 16 = .ok (.invokevirtual 188, 3) := by decide +kernel
theorem dX1_digest_19 : decode cX1_digest 19 = .ok (.i2l, 1) := by decide +kernel
theorem dX1_digest_20 : decode cX1_digest 20 = .ok (.invokestatic 184, 3) := by decide +kernel
theorem dX1_digest_23 : decode cX1_digest 23 = .ok (.lstore_n 1, 1) := by decide +kernel
theorem dX1_digest_24 : decode cX1_digest 24 = .ok (.lload_n 1, 1) := by decide +kernel
theorem dX1_digest_25 : decode cX1_digest 25 = .ok (.aload_n 0, 1) := by decide +kernel
theorem dX1_digest_26 : decode cX1_digest 26 = .ok (.invokevirtual 191, 3) := by decide +kernel
theorem dX1_digest_29 : decode cX1_digest 29 = .ok (.i2l, 1) := by decide +kernel
theorem dX1_digest_30 : decode cX1_digest 30 = .ok (.invokestatic 184, 3) := by decide +kernel
theorem dX1_digest_33 : decode cX1_digest 33 = .ok (.lstore_n 1, 1) := by decide +kernel
theorem dX1_digest_34 : decode cX1_digest 34 = .ok (.lload_n 1, 1) := by decide +kernel
theorem dX1_digest_35 : decode cX1_digest 35 = .ok (.aload_n 0, 1) := by decide +kernel
theorem dX1_digest_36 : decode cX1_digest 36 = .ok (.invokevirtual 194, 3) := by decide +kernel
theorem dX1_digest_39 : decode cX1_digest 39 = .ok (.i2l, 1) := by decide +kernel
theorem dX1_digest_40 : decode cX1_digest 40 = .ok (.invokestatic 184, 3) := by decide +kernel
theorem dX1_digest_43 : decode cX1_digest 43 = .ok (.lstore_n 1, 1) := by decide +kernel
theorem dX1_digest_44 : decode cX1_digest 44 = .ok (.lload_n 1, 1) := by decide +kernel
theorem dX1_digest_45 : decode cX1_digest 45 = .ok (.aload_n 0, 1) := by decide +kernel
theorem dX1_digest_46 : decode cX1_digest 46 = .ok (.invokevirtual 197, 3) := by decide +kernel
theorem dX1_digest_49 : decode cX1_digest 49 = .ok (.i2l, 1) := by decide +kernel
theorem dX1_digest_50 : decode cX1_digest 50 = .ok (.invokestatic 184, 3) := by decide +kernel
theorem dX1_digest_53 : decode cX1_digest 53 = .ok (.lstore_n 1, 1) := by decide +kernel
theorem dX1_digest_54 : decode cX1_digest 54 = .ok (.lload_n 1, 1) := by decide +kernel
theorem dX1_digest_55 : decode cX1_digest 55 = .ok (.aload_n 0, 1) := by decide +kernel
theorem dX1_digest_56 : decode cX1_digest 56 = .ok (.invokevirtual 200, 3) := by decide +kernel
theorem dX1_digest_59 : decode cX1_digest 59 = .ok (.i2l, 1) := by decide +kernel
theorem dX1_digest_60 : decode cX1_digest 60 = .ok (.invokestatic 184, 3) := by decide +kernel
theorem dX1_digest_63 : decode cX1_digest 63 = .ok (.lstore_n 1, 1) := by decide +kernel
theorem dX1_digest_64 : decode cX1_digest 64 = .ok (.iconst 0, 1) := by decide +kernel
theorem dX1_digest_65 : decode cX1_digest 65 = .ok (.istore_n 3, 1) := by decide +kernel
theorem dX1_digest_66 : decode cX1_digest 66 = .ok (.iload_n 3, 1) := by decide +kernel
theorem dX1_digest_67 : decode cX1_digest 67 = .ok (.aload_n 0, 1) := by decide +kernel
theorem dX1_digest_68 : decode cX1_digest 68 = .ok (.getfield 36, 3) := by decide +kernel
theorem dX1_digest_71 : decode cX1_digest 71 = .ok (.if_icmp .ge 16, 3) := by decide +kernel
theorem dX1_digest_74 : decode cX1_digest 74 = .ok (.aload_n 0, 1) := by decide +kernel
theorem dX1_digest_75 : decode cX1_digest 75 = .ok (.lload_n 1, 1) := by decide +kernel
theorem dX1_digest_76 : decode cX1_digest 76 = .ok (.iload_n 3, 1) := by decide +kernel
theorem dX1_digest_77 : decode cX1_digest 77 = .ok (.invokevirtual 203, 3) := by decide +kernel
theorem dX1_digest_80 : decode cX1_digest 80 = .ok (.lstore_n 1, 1) := by decide +kernel
theorem dX1_digest_81 : decode cX1_digest 81 = .ok (.iinc 3 1, 3) := by decide +kernel
theorem dX1_digest_84 : decode cX1_digest 84 = .ok (.goto (-18), 3) := by decide +kernel
theorem dX1_digest_87 : decode cX1_digest 87 = .ok (.lload_n 1, 1) := by decide +kernel
theorem dX1_digest_88 : decode cX1_digest 88 = .ok (.lreturn, 1) := by decide +kernel
theorem dX1_digestWith_0 : decode cX1_digestWith 0 = .ok (.lload_n 0, 1) := by decide +kernel
theorem dX1_digestWith_1 : decode cX1_digestWith 1 = .ok (.ldc2_w 207, 3) := by decide +kernel
theorem dX1_digestWith_4 : decode cX1_digestWith 4 = .ok (.lmul, 1) := by decide +kernel
theorem dX1_digestWith_5 : decode cX1_digestWith 5 = .ok (.lload_n 2, 1) := by decide +kernel
theorem dX1_digestWith_6 : decode cX1_digestWith 6 = .ok (.ladd, 1) := by decide +kernel
theorem dX1_digestWith_7 : decode cX1_digestWith 7 = .ok (.lreturn, 1) := by decide +kernel
theorem dX1_digestWithHeading_0 : decode cX1_digestWithHeading 0 = .ok (.aload_n 0, 1) := by decide +kernel
theorem dX1_digestWithHeading_1 : decode cX1_digestWithHeading 1 = .ok (.iload_n 3, 1) := by decide +kernel
theorem dX1_digestWithHeading_2 : decode cX1_digestWithHeading 2 = .ok (.invokevirtual 64, 3) := by decide +kernel
theorem dX1_digestWithHeading_5 : decode cX1_digestWithHeading 5 = .ok (.astore 4, 2) := by decide +kernel
theorem dX1_digestWithHeading_7 : decode cX1_digestWithHeading 7 = .ok (.lload_n 1, 1) := by decide +kernel
theorem dX1_digestWithHeading_8 : decode cX1_digestWithHeading 8 = .ok (.aload 4, 2) := by decide +kernel
theorem dX1_digestWithHeading_10 : decode cX1_digestWithHeading 10 = .ok (.invokevirtual 82, 3) := by decide +kernel
theorem dX1_digestWithHeading_13 : decode cX1_digestWithHeading 13 = .ok (.i2l, 1) := by decide +kernel
theorem dX1_digestWithHeading_14 : decode cX1_digestWithHeading 14 = .ok (.invokestatic 184, 3) := by decide +kernel
theorem dX1_digestWithHeading_17 : decode cX1_digestWithHeading 17 = .ok (.lstore 5, 2) := by decide +kernel
theorem dX1_digestWithHeading_19 : decode cX1_digestWithHeading 19 = .ok (.lload 5, 2) := by decide +kernel
theorem dX1_digestWithHeading_21 : decode cX1_digestWithHeading 21 = .ok (.aload 4, 2) := by decide +kernel
theorem dX1_digestWithHeading_23 : decode cX1_digestWithHeading 23 = .ok (.invokevirtual 90, 3) := by decide +kernel
theorem dX1_digestWithHeading_26 : decode cX1_digestWithHeading 26 = .ok (.i2l, 1) := by decide +kernel
theorem dX1_digestWithHeading_27 : decode cX1_digestWithHeading 27 = .ok (.invokestatic 184, 3) := by decide +kernel
theorem dX1_digestWithHeading_30 : decode cX1_digestWithHeading 30 = .ok (.lstore 5, 2) := by decide +kernel
theorem dX1_digestWithHeading_32 : decode cX1_digestWithHeading 32 = .ok (.lload 5, 2) := by decide +kernel
theorem dX1_digestWithHeading_34 : decode cX1_digestWithHeading 34 = .ok (.aload_n 0, 1) := by decide +kernel
theorem dX1_digestWithHeading_35 : decode cX1_digestWithHeading 35 = .ok (.iload_n 3, 1) := by decide +kernel
theorem dX1_digestWithHeading_36 : decode cX1_digestWithHeading 36 = .ok (.invokevirtual 58, 3) := by decide +kernel
theorem dX1_digestWithHeading_39 : decode cX1_digestWithHeading 39 = .ok (.i2l, 1) := by decide +kernel
theorem dX1_digestWithHeading_40 : decode cX1_digestWithHeading 40 = .ok (.invokestatic 184, 3) := by decide +kernel
theorem dX1_digestWithHeading_43 : decode cX1_digestWithHeading 43 = .ok (.lstore 5, 2) := by decide +kernel
theorem dX1_digestWithHeading_45 : decode cX1_digestWithHeading 45 = .ok (.lload 5, 2) := by decide +kernel
theorem dX1_digestWithHeading_47 : decode cX1_digestWithHeading 47 = .ok (.aload_n 0, 1) := by decide +kernel
theorem dX1_digestWithHeading_48 : decode cX1_digestWithHeading 48 = .ok (.iload_n 3, 1) := by decide +kernel
theorem dX1_digestWithHeading_49 : decode cX1_digestWithHeading 49 = .ok (.invokevirtual 142, 3) := by decide +kernel
theorem dX1_digestWithHeading_52 : decode cX1_digestWithHeading 52 = .ok (.i2l, 1) := by decide +kernel
theorem dX1_digestWithHeading_53 : decode cX1_digestWithHeading 53 = .ok (.invokestatic 184, 3) := by decide +kernel
theorem dX1_digestWithHeading_56 : decode cX1_digestWithHeading 56 = .ok (.lstore 5, 2) := by decide +kernel
theorem dX1_digestWithHeading_58 : decode cX1_digestWithHeading 58 = .ok (.lload 5, 2) := by decide +kernel
theorem dX1_digestWithHeading_60 : decode cX1_digestWithHeading 60 = .ok (.aload_n 0, 1) := by decide +kernel
theorem dX1_digestWithHeading_61 : decode cX1_digestWithHeading 61 = .ok (.iload_n 3, 1) := by decide +kernel
theorem dX1_digestWithHeading_62 : decode cX1_digestWithHeading 62 = .ok (.invokevirtual 152, 3) := by decide +kernel
theorem dX1_digestWithHeading_65 : decode cX1_digestWithHeading 65 = .ok (.i2l, 1) := by decide +kernel
theorem dX1_digestWithHeading_66 : decode cX1_digestWithHeading 66 = .ok (.invokestatic 184, 3) := by decide +kernel
theorem dX1_digestWithHeading_69 : decode cX1_digestWithHeading 69 = .ok (.lstore 5, 2) := by decide +kernel
theorem dX1_digestWithHeading_71 : decode cX1_digestWithHeading 71 = .ok (.lload 5, 2) := by decide +kernel
theorem dX1_digestWithHeading_73 : decode cX1_digestWithHeading 73 = .ok (.aload_n 0, 1) := by decide +kernel
theorem dX1_digestWithHeading_74 : decode cX1_digestWithHeading 74 = .ok (.iload_n 3, 1) := by decide +kernel
theorem dX1_digestWithHeading_75 : decode cX1_digestWithHeading 75 = .ok (.invokevirtual 161, 3) := by decide +kernel
theorem dX1_digestWithHeading_78 : decode cX1_digestWithHeading 78 = .ok (.i2l, 1) := by decide +kernel
theorem dX1_digestWithHeading_79 : decode cX1_digestWithHeading 79 = .ok (.invokestatic 184, 3) := by decide +kernel
theorem dX1_digestWithHeading_82 : decode cX1_digestWithHeading 82 = .ok (.lstore 5, 2) := by decide +kernel
theorem dX1_digestWithHeading_84 : decode cX1_digestWithHeading 84 = .ok (.lload 5, 2) := by decide +kernel
theorem dX1_digestWithHeading_86 : decode cX1_digestWithHeading 86 = .ok (.aload_n 0, 1) := by decide +kernel
theorem dX1_digestWithHeading_87 : decode cX1_digestWithHeading 87 = .ok (.iload_n 3, 1) := by decide +kernel
theorem dX1_digestWithHeading_88 : decode cX1_digestWithHeading 88 = .ok (.invokevirtual 164, 3) := by decide +kernel
theorem dX1_digestWithHeading_91 : decode cX1_digestWithHeading 91 = .ok (.ifCond .eq 7, 3) := by decide +kernel
theorem dX1_digestWithHeading_94 : decode cX1_digestWithHeading 94 = .ok (.lconst 1, 1) := by decide +kernel
theorem dX1_digestWithHeading_95 : decode cX1_digestWithHeading 95 = .ok (.goto 4, 3) := by decide +kernel
theorem dX1_digestWithHeading_98 : decode cX1_digestWithHeading 98 = .ok (.lconst 0, 1) := by decide +kernel
theorem dX1_digestWithHeading_99 : decode cX1_digestWithHeading 99 = .ok (.invokestatic 184, 3) := by decide +kernel
theorem dX1_digestWithHeading_102 : decode cX1_digestWithHeading 102 = .ok (.lstore 5, 2) := by decide +kernel
theorem dX1_digestWithHeading_104 : decode cX1_digestWithHeading 104 = .ok (.lload 5, 2) := by decide +kernel
theorem dX1_digestWithHeading_106 : decode cX1_digestWithHeading 106 = .ok (.aload_n 0, 1) := by decide +kernel
theorem dX1_digestWithHeading_107 : decode cX1_digestWithHeading 107 = .ok (.iload_n 3, 1) := by decide +kernel
theorem dX1_digestWithHeading_108 : decode cX1_digestWithHeading 108 = .ok (.invokevirtual 176, 3) := by decide +kernel
theorem dX1_digestWithHeading_111 : decode cX1_digestWithHeading 111 = .ok (.i2l, 1) := by decide +kernel
theorem dX1_digestWithHeading_112 : decode cX1_digestWithHeading 112 = .ok (.invokestatic 184, 3) := by decide +kernel
theorem dX1_digestWithHeading_115 : decode cX1_digestWithHeading 115 = .ok (.lstore 5, 2) := by decide +kernel
theorem dX1_digestWithHeading_117 : decode cX1_digestWithHeading 117 = .ok (.iconst 0, 1) := by decide +kernel
theorem dX1_digestWithHeading_118 : decode cX1_digestWithHeading 118 = .ok (.istore 7, 2) := by decide +kernel
theorem dX1_digestWithHeading_120 : decode cX1_digestWithHeading 120 = .ok (.iload 7, 2) := by decide +kernel
theorem dX1_digestWithHeading_122 : decode cX1_digestWithHeading 122 = .ok (.aload 4, 2) := by decide +kernel
theorem dX1_digestWithHeading_124 : decode cX1_digestWithHeading 124 = .ok (.invokevirtual 82, 3) := by decide +kernel
theorem dX1_digestWithHeading_127 : decode cX1_digestWithHeading 127 = .ok (.if_icmp .ge 39, 3) := by decide +kernel
theorem dX1_digestWithHeading_130 : decode cX1_digestWithHeading 130 = .ok (.lload 5, 2) := by decide +kernel
theorem dX1_digestWithHeading_132 : decode cX1_digestWithHeading 132 = .ok (.aload 4, 2) := by decide +kernel
theorem dX1_digestWithHeading_134 : decode cX1_digestWithHeading 134 = .ok (.iload 7, 2) := by decide +kernel
theorem dX1_digestWithHeading_136 : decode cX1_digestWithHeading 136 = .ok (.invokevirtual 136, 3) := by decide +kernel
theorem dX1_digestWithHeading_139 : decode cX1_digestWithHeading 139 = .ok (.i2l, 1) := by decide +kernel
theorem dX1_digestWithHeading_140 : decode cX1_digestWithHeading 140 = .ok (.invokestatic 184, 3) := by decide +kernel
theorem dX1_digestWithHeading_143 : decode cX1_digestWithHeading 143 = .ok (.lstore 5, 2) := by decide +kernel
theorem dX1_digestWithHeading_145 : decode cX1_digestWithHeading 145 = .ok (.lload 5, 2) := by decide +kernel
theorem dX1_digestWithHeading_147 : decode cX1_digestWithHeading 147 = .ok (.aload 4, 2) := by decide +kernel
theorem dX1_digestWithHeading_149 : decode cX1_digestWithHeading 149 = .ok (.iload 7, 2) := by decide +kernel
theorem dX1_digestWithHeading_151 : decode cX1_digestWithHeading 151 = .ok (.invokevirtual 139, 3) := by decide +kernel
theorem dX1_digestWithHeading_154 : decode cX1_digestWithHeading 154 = .ok (.i2l, 1) := by decide +kernel
theorem dX1_digestWithHeading_155 : decode cX1_digestWithHeading 155 = .ok (.invokestatic 184, 3) := by decide +kernel
theorem dX1_digestWithHeading_158 : decode cX1_digestWithHeading 158 = .ok (.lstore 5, 2) := by decide +kernel
theorem dX1_digestWithHeading_160 : decode cX1_digestWithHeading 160 = .ok (.iinc 7 1, 3) := by decide +kernel
theorem dX1_digestWithHeading_163 : decode cX1_digestWithHeading 163 = .ok (.goto (-43), 3) := by decide +kernel
theorem dX1_digestWithHeading_166 : decode cX1_digestWithHeading 166 = .ok (.lload 5, 2) := by decide +kernel
theorem dX1_digestWithHeading_168 : decode cX1_digestWithHeading 168 = .ok (.lreturn, 1) := by decide +kernel
theorem dX1_isHeading_0 : decode cX1_isHeading 0 = .ok (.iload_n 1, 1) := by decide +kernel
theorem dX1_isHeading_1 : decode cX1_isHeading 1 = .ok (.ifCond .lt 15, 3) := by decide +kernel
theorem dX1_isHeading_4 : decode cX1_isHeading 4 = .ok (.iload_n 1, 1) := by decide +kernel
theorem dX1_isHeading_5 : decode cX1_isHeading 5 = .ok (.aload_n 0, 1) := by decide +kernel
theorem dX1_isHeading_6 : decode cX1_isHeading 6 = .ok (.getfield 36, 3) := by decide +kernel
theorem dX1_isHeading_9 : decode cX1_isHeading 9 = .ok (.if_icmp .ge 7, 3) := by decide +kernel
theorem dX1_isHeading_12 : decode cX1_isHeading 12 = .ok (.iconst 1, 1) := by decide +kernel
theorem dX1_isHeading_13 : decode cX1_isHeading 13 = .ok (.goto 4, 3) := by decide +kernel
theorem dX1_isHeading_16 : decode cX1_isHeading 16 = .ok (.iconst 0, 1) := by decide +kernel
theorem dX1_isHeading_17 : decode cX1_isHeading 17 = .ok (.ireturn, 1) := by decide +kernel
theorem dX1_needHeading_0 : decode cX1_needHeading 0 = .ok (.aload_n 0, 1) := by decide +kernel
theorem dX1_needHeading_1 : decode cX1_needHeading 1 = .ok (.iload_n 1, 1) := by decide +kernel
theorem dX1_needHeading_2 : decode cX1_needHeading 2 = .ok (.invokevirtual 209, 3) := by decide +kernel
theorem dX1_needHeading_5 : decode cX1_needHeading 5 = .ok (.ifCond .ne 13, 3) := by decide +kernel
theorem dX1_needHeading_8 : decode cX1_needHeading 8 = .ok (.new 212, 3) := by decide +kernel
theorem dX1_needHeading_11 : decode cX1_needHeading 11 = .ok (.dup, 1) := by decide +kernel
theorem dX1_needHeading_12 : decode cX1_needHeading 12 = .ok (.ldc 214, 2) := by decide +kernel
theorem dX1_needHeading_14 : decode cX1_needHeading 14 = .ok (.invokespecial 216, 3) := by decide +kernel
theorem dX1_needHeading_17 : decode cX1_needHeading 17 = .ok (.athrow, 1) := by decide +kernel
theorem dX1_needHeading_18 : decode cX1_needHeading 18 = .ok (.return_, 1) := by decide +kernel
theorem dX1_needSpan_0 : decode cX1_needSpan 0 = .ok (.iload_n 2, 1) := by decide +kernel
theorem dX1_needSpan_1 : decode cX1_needSpan 1 = .ok (.ifCond .lt 15, 3) := by decide +kernel
theorem dX1_needSpan_4 : decode cX1_needSpan 4 = .ok (.iload_n 2, 1) := by decide +kernel
theorem dX1_needSpan_5 : decode cX1_needSpan 5 = .ok (.aload_n 0, 1) := by decide +kernel
theorem dX1_needSpan_6 : decode cX1_needSpan 6 = .ok (.iload_n 1, 1) := by decide +kernel
theorem dX1_needSpan_7 : decode cX1_needSpan 7 = .ok (.invokevirtual 64, 3) := by decide +kernel
theorem dX1_needSpan_10 : decode cX1_needSpan 10 = .ok (.invokevirtual 82, 3) := by decide +kernel
theorem dX1_needSpan_13 : decode cX1_needSpan 13 = .ok (.if_icmp .lt 13, 3) := by decide +kernel
theorem dX1_needSpan_16 : decode cX1_needSpan 16 = .ok (.new 212, 3) := by decide +kernel
theorem dX1_needSpan_19 : decode cX1_needSpan 19 = .ok (.dup, 1) := by decide +kernel
theorem dX1_needSpan_20 : decode cX1_needSpan 20 = .ok (.ldc 217, 2) := by decide +kernel
theorem dX1_needSpan_22 : decode cX1_needSpan 22 = .ok (.invokespecial 216, 3) := by decide +kernel
theorem dX1_needSpan_25 : decode cX1_needSpan 25 = .ok (.athrow, 1) := by decide +kernel
theorem dX1_needSpan_26 : decode cX1_needSpan 26 = .ok (.return_, 1) := by decide +kernel
theorem dX1_needPage_0 : decode cX1_needPage 0 = .ok (.iload_n 1, 1) := by decide +kernel
theorem dX1_needPage_1 : decode cX1_needPage 1 = .ok (.iconst 1, 1) := by decide +kernel
theorem dX1_needPage_2 : decode cX1_needPage 2 = .ok (.if_icmp .lt 11, 3) := by decide +kernel
theorem dX1_needPage_5 : decode cX1_needPage 5 = .ok (.iload_n 1, 1) := by decide +kernel
theorem dX1_needPage_6 : decode cX1_needPage 6 = .ok (.aload_n 0, 1) := by decide +kernel
theorem dX1_needPage_7 : decode cX1_needPage 7 = .ok (.getfield 40, 3) := by decide +kernel
theorem dX1_needPage_10 : decode cX1_needPage 10 = .ok (.if_icmp .le 13, 3) := by decide +kernel
theorem dX1_needPage_13 : decode cX1_needPage 13 = .ok (.new 109, 3) := by decide +kernel
theorem dX1_needPage_16 : decode cX1_needPage 16 = .ok (.dup, 1) := by decide +kernel
theorem dX1_needPage_17 : decode cX1_needPage 17 = .ok (.ldc 219, 2) := by decide +kernel
theorem dX1_needPage_19 : decode cX1_needPage 19 = .ok (.invokespecial 113, 3) := by decide +kernel
theorem dX1_needPage_22 : decode cX1_needPage 22 = .ok (.athrow, 1) := by decide +kernel
theorem dX1_needPage_23 : decode cX1_needPage 23 = .ok (.return_, 1) := by decide +kernel
theorem dX1_needPages_0 : decode cX1_needPages 0 = .ok (.iload_n 1, 1) := by decide +kernel
theorem dX1_needPages_1 : decode cX1_needPages 1 = .ok (.iconst 1, 1) := by decide +kernel
theorem dX1_needPages_2 : decode cX1_needPages 2 = .ok (.if_icmp .lt 16, 3) := by decide +kernel
theorem dX1_needPages_5 : decode cX1_needPages 5 = .ok (.iload_n 2, 1) := by decide +kernel
theorem dX1_needPages_6 : decode cX1_needPages 6 = .ok (.aload_n 0, 1) := by decide +kernel
theorem dX1_needPages_7 : decode cX1_needPages 7 = .ok (.getfield 40, 3) := by decide +kernel
theorem dX1_needPages_10 : decode cX1_needPages 10 = .ok (.if_icmp .gt 8, 3) := by decide +kernel
theorem dX1_needPages_13 : decode cX1_needPages 13 = .ok (.iload_n 2, 1) := by decide +kernel
theorem dX1_needPages_14 : decode cX1_needPages 14 = .ok (.iload_n 1, 1) := by decide +kernel
theorem dX1_needPages_15 : decode cX1_needPages 15 = .ok (.if_icmp .ge 13, 3) := by decide +kernel
theorem dX1_needPages_18 : decode cX1_needPages 18 = .ok (.new 109, 3) := by decide +kernel
theorem dX1_needPages_21 : decode cX1_needPages 21 = .ok (.dup, 1) := by decide +kernel
theorem dX1_needPages_22 : decode cX1_needPages 22 = .ok (.ldc 221, 2) := by decide +kernel
theorem dX1_needPages_24 : decode cX1_needPages 24 = .ok (.invokespecial 113, 3) := by decide +kernel
theorem dX1_needPages_27 : decode cX1_needPages 27 = .ok (.athrow, 1) := by decide +kernel
theorem dX1_needPages_28 : decode cX1_needPages 28 = .ok (.return_, 1) := by decide +kernel
theorem dX1_needTwo_0 : decode cX1_needTwo 0 = .ok (.iload_n 1, 1) := by decide +kernel
theorem dX1_needTwo_1 : decode cX1_needTwo 1 = .ok (.iload_n 2, 1) := by decide +kernel
theorem dX1_needTwo_2 : decode cX1_needTwo 2 = .ok (.if_icmp .ne 13, 3) := by decide +kernel
theorem dX1_needTwo_5 : decode cX1_needTwo 5 = .ok (.new 109, 3) := by decide +kernel
theorem dX1_needTwo_8 : decode cX1_needTwo 8 = .ok (.dup, 1) := by decide +kernel
theorem dX1_needTwo_9 : decode cX1_needTwo 9 = .ok (.ldc 223, 2) := by decide +kernel
theorem dX1_needTwo_11 : decode cX1_needTwo 11 = .ok (.invokespecial 113, 3) := by decide +kernel
theorem dX1_needTwo_14 : decode cX1_needTwo 14 = .ok (.athrow, 1) := by decide +kernel
theorem dX1_needTwo_15 : decode cX1_needTwo 15 = .ok (.return_, 1) := by decide +kernel
theorem dX1_needNoPages_0 : decode cX1_needNoPages 0 = .ok (.aload_n 0, 1) := by decide +kernel
theorem dX1_needNoPages_1 : decode cX1_needNoPages 1 = .ok (.iload_n 1, 1) := by decide +kernel
theorem dX1_needNoPages_2 : decode cX1_needNoPages 2 = .ok (.invokevirtual 64, 3) := by decide +kernel
theorem dX1_needNoPages_5 : decode cX1_needNoPages 5 = .ok (.invokevirtual 82, 3) := by decide +kernel
theorem dX1_needNoPages_8 : decode cX1_needNoPages 8 = .ok (.ifCond .le 13, 3) := by decide +kernel
theorem dX1_needNoPages_11 : decode cX1_needNoPages 11 = .ok (.new 43, 3) := by decide +kernel
theorem dX1_needNoPages_14 : decode cX1_needNoPages 14 = .ok (.dup, 1) := by decide +kernel
theorem dX1_needNoPages_15 : decode cX1_needNoPages 15 = .ok (.ldc 225, 2) := by decide +kernel
theorem dX1_needNoPages_17 : decode cX1_needNoPages 17 = .ok (.invokespecial 47, 3) := by decide +kernel
theorem dX1_needNoPages_20 : decode cX1_needNoPages 20 = .ok (.athrow, 1) := by decide +kernel
theorem dX1_needNoPages_21 : decode cX1_needNoPages 21 = .ok (.return_, 1) := by decide +kernel
theorem dX1_needRoomForMade_0 : decode cX1_needRoomForMade 0 = .ok (.aload_n 0, 1) := by decide +kernel
theorem dX1_needRoomForMade_1 : decode cX1_needRoomForMade 1 = .ok (.getfield 30, 3) := by decide +kernel
theorem dX1_needRoomForMade_4 : decode cX1_needRoomForMade 4 = .ok (.invokevirtual 82, 3) := by decide +kernel
theorem dX1_needRoomForMade_7 : decode cX1_needRoomForMade 7 = .ok (.bipush 8, 2) := by decide +kernel
theorem dX1_needRoomForMade_9 : decode cX1_needRoomForMade 9 = .ok (.if_icmp .le 13, 3) := by decide +kernel
theorem dX1_needRoomForMade_12 : decode cX1_needRoomForMade 12 = .ok (.new 43, 3) := by decide +kernel
theorem dX1_needRoomForMade_15 : decode cX1_needRoomForMade 15 = .ok (.dup, 1) := by decide +kernel
theorem dX1_needRoomForMade_16 : decode cX1_needRoomForMade 16 = .ok (.ldc 227, 2) := by decide +kernel
theorem dX1_needRoomForMade_18 : decode cX1_needRoomForMade 18 = .ok (.invokespecial 47, 3) := by decide +kernel
theorem dX1_needRoomForMade_21 : decode cX1_needRoomForMade 21 = .ok (.athrow, 1) := by decide +kernel
theorem dX1_needRoomForMade_22 : decode cX1_needRoomForMade 22 = .ok (.return_, 1) := by decide +kernel
theorem dX1_spansAt_0 : decode cX1_spansAt 0 = .ok (.aload_n 0, 1) := by decide +kernel
theorem dX1_spansAt_1 : decode cX1_spansAt 1 = .ok (.iload_n 1, 1) := by decide +kernel
theorem dX1_spansAt_2 : decode cX1_spansAt 2 = .ok (.invokevirtual 209, 3) := by decide +kernel
theorem dX1_spansAt_5 : decode cX1_spansAt 5 = .ok (.ifCond .eq 12, 3) := by decide +kernel
theorem dX1_spansAt_8 : decode cX1_spansAt 8 = .ok (.aload_n 0, 1) := by decide +kernel
theorem dX1_spansAt_9 : decode cX1_spansAt 9 = .ok (.getfield 11, 3) := by decide +kernel
theorem dX1_spansAt_12 : decode cX1_spansAt 12 = .ok (.iload_n 1, 1) := by decide +kernel
theorem dX1_spansAt_13 : decode cX1_spansAt 13 = .ok (.aaload, 1) := by decide +kernel
theorem dX1_spansAt_14 : decode cX1_spansAt 14 = .ok (.goto 4, 3) := by decide +kernel
theorem dX1_spansAt_17 : decode cX1_spansAt 17 = .ok (.aconst_null, 1) := by decide +kernel
theorem dX1_spansAt_18 : decode cX1_spansAt 18 = .ok (.astore_n 2, 1) := by decide +kernel
theorem dX1_spansAt_19 : decode cX1_spansAt 19 = .ok (.aload_n 2, 1) := by decide +kernel
theorem dX1_spansAt_20 : decode cX1_spansAt 20 = .ok (.ifnonnull 10, 3) := by decide +kernel
theorem dX1_spansAt_23 : decode cX1_spansAt 23 = .ok (.aload_n 0, 1) := by decide +kernel
theorem dX1_spansAt_24 : decode cX1_spansAt 24 = .ok (.getfield 33, 3) := by decide +kernel
theorem dX1_spansAt_27 : decode cX1_spansAt 27 = .ok (.goto 4, 3) := by decide +kernel
theorem dX1_spansAt_30 : decode cX1_spansAt 30 = .ok (.aload_n 2, 1) := by decide +kernel
theorem dX1_spansAt_31 : decode cX1_spansAt 31 = .ok (.areturn, 1) := by decide +kernel
theorem dX1_seeAt_0 : decode cX1_seeAt 0 = .ok (.aload_n 0, 1) := by decide +kernel
theorem dX1_seeAt_1 : decode cX1_seeAt 1 = .ok (.iload_n 1, 1) := by decide +kernel
theorem dX1_seeAt_2 : decode cX1_seeAt 2 = .ok (.invokevirtual 209, 3) := by decide +kernel
theorem dX1_seeAt_5 : decode cX1_seeAt 5 = .ok (.ifCond .eq 12, 3) := by decide +kernel
theorem dX1_seeAt_8 : decode cX1_seeAt 8 = .ok (.aload_n 0, 1) := by decide +kernel
theorem dX1_seeAt_9 : decode cX1_seeAt 9 = .ok (.getfield 16, 3) := by decide +kernel
theorem dX1_seeAt_12 : decode cX1_seeAt 12 = .ok (.iload_n 1, 1) := by decide +kernel
theorem dX1_seeAt_13 : decode cX1_seeAt 13 = .ok (.iaload, 1) := by decide +kernel
theorem dX1_seeAt_14 : decode cX1_seeAt 14 = .ok (.goto 4, 3) := by decide +kernel
theorem dX1_seeAt_17 : decode cX1_seeAt 17 = .ok (.iconst (-1), 1) := by decide +kernel
theorem dX1_seeAt_18 : decode cX1_seeAt 18 = .ok (.ireturn, 1) := by decide +kernel
theorem dX1_countSeeAlsos_0 : decode cX1_countSeeAlsos 0 = .ok (.aload_n 0, 1) := by decide +kernel
theorem dX1_countSeeAlsos_1 : decode cX1_countSeeAlsos 1 = .ok (.iload_n 1, 1) := by decide +kernel
theorem dX1_countSeeAlsos_2 : decode cX1_countSeeAlsos 2 = .ok (.invokevirtual 209, 3) := by decide +kernel
theorem dX1_countSeeAlsos_5 : decode cX1_countSeeAlsos 5 = .ok (.ifCond .eq 15, 3) := by decide +kernel
theorem dX1_countSeeAlsos_8 : decode cX1_countSeeAlsos 8 = .ok (.aload_n 0, 1) := by decide +kernel
theorem dX1_countSeeAlsos_9 : decode cX1_countSeeAlsos 9 = .ok (.getfield 20, 3) := by decide +kernel
theorem dX1_countSeeAlsos_12 : decode cX1_countSeeAlsos 12 = .ok (.iload_n 1, 1) := by decide +kernel
theorem dX1_countSeeAlsos_13 : decode cX1_countSeeAlsos 13 = .ok (.iaload, 1) := by decide +kernel
theorem dX1_countSeeAlsos_14 : decode cX1_countSeeAlsos 14 = .ok (.invokestatic 102, 3) := by decide +kernel
theorem dX1_countSeeAlsos_17 : decode cX1_countSeeAlsos 17 = .ok (.goto 4, 3) := by decide +kernel
theorem dX1_countSeeAlsos_20 : decode cX1_countSeeAlsos 20 = .ok (.iconst 0, 1) := by decide +kernel
theorem dX1_countSeeAlsos_21 : decode cX1_countSeeAlsos 21 = .ok (.ireturn, 1) := by decide +kernel
theorem dX1_countHeadingsOn_0 : decode cX1_countHeadingsOn 0 = .ok (.iconst 0, 1) := by decide +kernel
theorem dX1_countHeadingsOn_1 : decode cX1_countHeadingsOn 1 = .ok (.istore_n 2, 1) := by decide +kernel
theorem dX1_countHeadingsOn_2 : decode cX1_countHeadingsOn 2 = .ok (.iconst 0, 1) := by decide +kernel
theorem dX1_countHeadingsOn_3 : decode cX1_countHeadingsOn 3 = .ok (.istore_n 3, 1) := by decide +kernel
theorem dX1_countHeadingsOn_4 : decode cX1_countHeadingsOn 4 = .ok (.iload_n 3, 1) := by decide +kernel
theorem dX1_countHeadingsOn_5 : decode cX1_countHeadingsOn 5 = .ok (.aload_n 0, 1) := by decide +kernel
theorem dX1_countHeadingsOn_6 : decode cX1_countHeadingsOn 6 = .ok (.getfield 36, 3) := by decide +kernel
theorem dX1_countHeadingsOn_9 : decode cX1_countHeadingsOn 9 = .ok (.if_icmp .ge 24, 3) := by decide +kernel
theorem dX1_countHeadingsOn_12 : decode cX1_countHeadingsOn 12 = .ok (.aload_n 0, 1) := by decide +kernel
theorem dX1_countHeadingsOn_13 : decode cX1_countHeadingsOn 13 = .ok (.iload_n 3, 1) := by decide +kernel
theorem dX1_countHeadingsOn_14 : decode cX1_countHeadingsOn 14 = .ok (.invokevirtual 64, 3) := by decide +kernel
theorem dX1_countHeadingsOn_17 : decode cX1_countHeadingsOn 17 = .ok (.iload_n 1, 1) := by decide +kernel
theorem dX1_countHeadingsOn_18 : decode cX1_countHeadingsOn 18 = .ok (.invokevirtual 145, 3) := by decide +kernel
theorem dX1_countHeadingsOn_21 : decode cX1_countHeadingsOn 21 = .ok (.ifCond .eq 6, 3) := by decide +kernel
theorem dX1_countHeadingsOn_24 : decode cX1_countHeadingsOn 24 = .ok (.iinc 2 1, 3) := by decide +kernel
theorem dX1_countHeadingsOn_27 : decode cX1_countHeadingsOn 27 = .ok (.iinc 3 1, 3) := by decide +kernel
theorem dX1_countHeadingsOn_30 : decode cX1_countHeadingsOn 30 = .ok (.goto (-26), 3) := by decide +kernel
theorem dX1_countHeadingsOn_33 : decode cX1_countHeadingsOn 33 = .ok (.iload_n 2, 1) := by decide +kernel
theorem dX1_countHeadingsOn_34 : decode cX1_countHeadingsOn 34 = .ok (.ireturn, 1) := by decide +kernel
theorem dX1_tallyHeadingsByPage_0 : decode cX1_tallyHeadingsByPage 0 = .ok (.iconst 0, 1) := by decide +kernel
theorem dX1_tallyHeadingsByPage_1 : decode cX1_tallyHeadingsByPage 1 = .ok (.istore_n 1, 1) := by decide +kernel
theorem dX1_tallyHeadingsByPage_2 : decode cX1_tallyHeadingsByPage 2 = .ok (.iload_n 1, 1) := by decide +kernel
theorem dX1_tallyHeadingsByPage_3 : decode cX1_tallyHeadingsByPage 3 = .ok (.aload_n 0, 1) := by decide +kernel
theorem dX1_tallyHeadingsByPage_4 : decode cX1_tallyHeadingsByPage 4 = .ok (.getfield 23, 3) := by decide +kernel
theorem dX1_tallyHeadingsByPage_7 : decode cX1_tallyHeadingsByPage 7 = .ok (.arraylength, 1) := by decide +kernel
theorem dX1_tallyHeadingsByPage_8 : decode cX1_tallyHeadingsByPage 8 = .ok (.if_icmp .ge 16, 3) := by decide +kernel
theorem dX1_tallyHeadingsByPage_11 : decode cX1_tallyHeadingsByPage 11 = .ok (.aload_n 0, 1) := by decide +kernel
theorem dX1_tallyHeadingsByPage_12 : decode cX1_tallyHeadingsByPage 12 = .ok (.getfield 23, 3) := by decide +kernel
theorem dX1_tallyHeadingsByPage_15 : decode cX1_tallyHeadingsByPage 15 = .ok (.iload_n 1, 1) := by decide +kernel
theorem dX1_tallyHeadingsByPage_16 : decode cX1_tallyHeadingsByPage 16 = .ok (.iconst 0, 1) := by decide +kernel
theorem dX1_tallyHeadingsByPage_17 : decode cX1_tallyHeadingsByPage 17 = .ok (.iastore, 1) := by decide +kernel
theorem dX1_tallyHeadingsByPage_18 : decode cX1_tallyHeadingsByPage 18 = .ok (.iinc 1 1, 3) := by decide +kernel
theorem dX1_tallyHeadingsByPage_21 : decode cX1_tallyHeadingsByPage 21 = .ok (.goto (-19), 3) := by decide +kernel
theorem dX1_tallyHeadingsByPage_24 : decode cX1_tallyHeadingsByPage 24 = .ok (.iconst 0, 1) := by decide +kernel
theorem dX1_tallyHeadingsByPage_25 : decode cX1_tallyHeadingsByPage 25 = .ok (.istore_n 1, 1) := by decide +kernel
theorem dX1_tallyHeadingsByPage_26 : decode cX1_tallyHeadingsByPage 26 = .ok (.iload_n 1, 1) := by decide +kernel
theorem dX1_tallyHeadingsByPage_27 : decode cX1_tallyHeadingsByPage 27 = .ok (.aload_n 0, 1) := by decide +kernel
theorem dX1_tallyHeadingsByPage_28 : decode cX1_tallyHeadingsByPage 28 = .ok (.getfield 36, 3) := by decide +kernel
theorem dX1_tallyHeadingsByPage_31 : decode cX1_tallyHeadingsByPage 31 = .ok (.if_icmp .ge 18, 3) := by decide +kernel
theorem dX1_tallyHeadingsByPage_34 : decode cX1_tallyHeadingsByPage 34 = .ok (.aload_n 0, 1) := by decide +kernel
theorem dX1_tallyHeadingsByPage_35 : decode cX1_tallyHeadingsByPage 35 = .ok (.aload_n 0, 1) := by decide +kernel
theorem dX1_tallyHeadingsByPage_36 : decode cX1_tallyHeadingsByPage 36 = .ok (.iload_n 1, 1) := by decide +kernel
theorem dX1_tallyHeadingsByPage_37 : decode cX1_tallyHeadingsByPage 37 = .ok (.invokevirtual 64, 3) := by decide +kernel
theorem dX1_tallyHeadingsByPage_40 : decode cX1_tallyHeadingsByPage 40 = .ok (.invokevirtual 229, 3) := by decide +kernel
theorem dX1_tallyHeadingsByPage_43 : decode cX1_tallyHeadingsByPage 43 = .ok (.iinc 1 1, 3) := by decide +kernel
theorem dX1_tallyHeadingsByPage_46 : decode cX1_tallyHeadingsByPage 46 = .ok (.goto (-20), 3) := by decide +kernel
theorem dX1_tallyHeadingsByPage_49 : decode cX1_tallyHeadingsByPage 49 = .ok (.iconst 1, 1) := by decide +kernel
theorem dX1_tallyHeadingsByPage_50 : decode cX1_tallyHeadingsByPage 50 = .ok (.istore_n 1, 1) := by decide +kernel
theorem dX1_tallyHeadingsByPage_51 : decode cX1_tallyHeadingsByPage 51 = .ok (.iload_n 1, 1) := by decide +kernel
theorem dX1_tallyHeadingsByPage_52 : decode cX1_tallyHeadingsByPage 52 = .ok (.aload_n 0, 1) := by decide +kernel
theorem dX1_tallyHeadingsByPage_53 : decode cX1_tallyHeadingsByPage 53 = .ok (.getfield 23, 3) := by decide +kernel
theorem dX1_tallyHeadingsByPage_56 : decode cX1_tallyHeadingsByPage 56 = .ok (.arraylength, 1) := by decide +kernel
theorem dX1_tallyHeadingsByPage_57 : decode cX1_tallyHeadingsByPage 57 = .ok (.if_icmp .ge 26, 3) := by decide +kernel
theorem dX1_tallyHeadingsByPage_60 : decode cX1_tallyHeadingsByPage 60 = .ok (.aload_n 0, 1) := by decide +kernel
theorem dX1_tallyHeadingsByPage_61 : decode cX1_tallyHeadingsByPage 61 = .ok (.getfield 23, 3) := by decide +kernel
theorem dX1_tallyHeadingsByPage_64 : decode cX1_tallyHeadingsByPage 64 = .ok (.iload_n 1, 1) := by decide +kernel
theorem dX1_tallyHeadingsByPage_65 : decode cX1_tallyHeadingsByPage 65 = .ok (.dup2, 1) := by decide +kernel
theorem dX1_tallyHeadingsByPage_66 : decode cX1_tallyHeadingsByPage 66 = .ok (.iaload, 1) := by decide +kernel
theorem dX1_tallyHeadingsByPage_67 : decode cX1_tallyHeadingsByPage 67 = .ok (.aload_n 0, 1) := by decide +kernel
theorem dX1_tallyHeadingsByPage_68 : decode cX1_tallyHeadingsByPage 68 = .ok (.getfield 23, 3) := by decide +kernel
theorem dX1_tallyHeadingsByPage_71 : decode cX1_tallyHeadingsByPage 71 = .ok (.iload_n 1, 1) := by decide +kernel
theorem dX1_tallyHeadingsByPage_72 : decode cX1_tallyHeadingsByPage 72 = .ok (.iconst 1, 1) := by decide +kernel
theorem dX1_tallyHeadingsByPage_73 : decode cX1_tallyHeadingsByPage 73 = .ok (.isub, 1) := by decide +kernel
theorem dX1_tallyHeadingsByPage_74 : decode cX1_tallyHeadingsByPage 74 = .ok (.iaload, 1) := by decide +kernel
theorem dX1_tallyHeadingsByPage_75 : decode cX1_tallyHeadingsByPage 75 = .ok (.iadd, 1) := by decide +kernel
theorem dX1_tallyHeadingsByPage_76 : decode cX1_tallyHeadingsByPage 76 = .ok (.iastore, 1) := by decide +kernel
theorem dX1_tallyHeadingsByPage_77 : decode cX1_tallyHeadingsByPage 77 = .ok (.iinc 1 1, 3) := by decide +kernel
theorem dX1_tallyHeadingsByPage_80 : decode cX1_tallyHeadingsByPage 80 = .ok (.goto (-29), 3) := by decide +kernel
theorem dX1_tallyHeadingsByPage_83 : decode cX1_tallyHeadingsByPage 83 = .ok (.return_, 1) := by decide +kernel
theorem dX1_tallyEnds_0 : decode cX1_tallyEnds 0 = .ok (.iconst 0, 1) := by decide +kernel
theorem dX1_tallyEnds_1 : decode cX1_tallyEnds 1 = .ok (.istore_n 2, 1) := by decide +kernel
theorem dX1_tallyEnds_2 : decode cX1_tallyEnds 2 = .ok (.iload_n 2, 1) := by decide +kernel
theorem dX1_tallyEnds_3 : decode cX1_tallyEnds 3 = .ok (.aload_n 1, 1) := by decide +kernel
theorem dX1_tallyEnds_4 : decode cX1_tallyEnds 4 = .ok (.invokevirtual 82, 3) := by decide +kernel
theorem dX1_tallyEnds_7 : decode cX1_tallyEnds 7 = .ok (.if_icmp .ge 31, 3) := by decide +kernel
theorem dX1_tallyEnds_10 : decode cX1_tallyEnds 10 = .ok (.aload_n 0, 1) := by decide +kernel
theorem dX1_tallyEnds_11 : decode cX1_tallyEnds 11 = .ok (.aload_n 1, 1) := by decide +kernel
theorem dX1_tallyEnds_12 : decode cX1_tallyEnds 12 = .ok (.iload_n 2, 1) := by decide +kernel
theorem dX1_tallyEnds_13 : decode cX1_tallyEnds 13 = .ok (.invokevirtual 136, 3) := by decide +kernel
theorem dX1_tallyEnds_16 : decode cX1_tallyEnds 16 = .ok (.iconst 1, 1) := by decide +kernel
theorem dX1_tallyEnds_17 : decode cX1_tallyEnds 17 = .ok (.invokevirtual 232, 3) := by decide +kernel
theorem dX1_tallyEnds_20 : decode cX1_tallyEnds 20 = .ok (.aload_n 0, 1) := by decide +kernel
theorem dX1_tallyEnds_21 : decode cX1_tallyEnds 21 = .ok (.aload_n 1, 1) := by decide +kernel
theorem dX1_tallyEnds_22 : decode cX1_tallyEnds 22 = .ok (.iload_n 2, 1) := by decide +kernel
theorem dX1_tallyEnds_23 : decode cX1_tallyEnds 23 = .ok (.invokevirtual 139, 3) := by decide +kernel
theorem dX1_tallyEnds_26 : decode cX1_tallyEnds 26 = .ok (.iconst 1, 1) := by decide +kernel
theorem dX1_tallyEnds_27 : decode cX1_tallyEnds 27 = .ok (.iadd, 1) := by decide +kernel
theorem dX1_tallyEnds_28 : decode cX1_tallyEnds 28 = .ok (.iconst (-1), 1) := by decide +kernel
theorem dX1_tallyEnds_29 : decode cX1_tallyEnds 29 = .ok (.invokevirtual 232, 3) := by decide +kernel
theorem dX1_tallyEnds_32 : decode cX1_tallyEnds 32 = .ok (.iinc 2 1, 3) := by decide +kernel
theorem dX1_tallyEnds_35 : decode cX1_tallyEnds 35 = .ok (.goto (-33), 3) := by decide +kernel
theorem dX1_tallyEnds_38 : decode cX1_tallyEnds 38 = .ok (.return_, 1) := by decide +kernel
theorem dX1_tallyAt_0 : decode cX1_tallyAt 0 = .ok (.iload_n 1, 1) := by decide +kernel
theorem dX1_tallyAt_1 : decode cX1_tallyAt 1 = .ok (.ifCond .lt 22, 3) := by decide +kernel
theorem dX1_tallyAt_4 : decode cX1_tallyAt 4 = .ok (.iload_n 1, 1) := by decide +kernel
theorem dX1_tallyAt_5 : decode cX1_tallyAt 5 = .ok (.aload_n 0, 1) := by decide +kernel
theorem dX1_tallyAt_6 : decode cX1_tallyAt 6 = .ok (.getfield 23, 3) := by decide +kernel
theorem dX1_tallyAt_9 : decode cX1_tallyAt 9 = .ok (.arraylength, 1) := by decide +kernel
theorem dX1_tallyAt_10 : decode cX1_tallyAt 10 = .ok (.if_icmp .ge 13, 3) := by decide +kernel
theorem dX1_tallyAt_13 : decode cX1_tallyAt 13 = .ok (.aload_n 0, 1) := by decide +kernel
theorem dX1_tallyAt_14 : decode cX1_tallyAt 14 = .ok (.getfield 23, 3) := by decide +kernel
theorem dX1_tallyAt_17 : decode cX1_tallyAt 17 = .ok (.iload_n 1, 1) := by decide +kernel
theorem dX1_tallyAt_18 : decode cX1_tallyAt 18 = .ok (.dup2, 1) := by decide +kernel
theorem dX1_tallyAt_19 : decode cX1_tallyAt 19 = .ok (.iaload, 1) := by decide +kernel
theorem dX1_tallyAt_20 : decode cX1_tallyAt 20 = .ok (.iload_n 2, 1) := by decide +kernel
theorem dX1_tallyAt_21 : decode cX1_tallyAt 21 = .ok (.iadd, 1) := by decide +kernel
theorem dX1_tallyAt_22 : decode cX1_tallyAt 22 = .ok (.iastore, 1) := by decide +kernel
theorem dX1_tallyAt_23 : decode cX1_tallyAt 23 = .ok (.return_, 1) := by decide +kernel
theorem dX1_nearestOther_0 : decode cX1_nearestOther 0 = .ok (.iconst (-1), 1) := by decide +kernel
theorem dX1_nearestOther_1 : decode cX1_nearestOther 1 = .ok (.istore_n 2, 1) := by decide +kernel
theorem dX1_nearestOther_2 : decode cX1_nearestOther 2 = .ok (.iconst 0, 1) := by decide +kernel
theorem dX1_nearestOther_3 : decode cX1_nearestOther 3 = .ok (.istore_n 3, 1) := by decide +kernel
theorem dX1_nearestOther_4 : decode cX1_nearestOther 4 = .ok (.iconst 0, 1) := by decide +kernel
theorem dX1_nearestOther_5 : decode cX1_nearestOther 5 = .ok (.istore 4, 2) := by decide +kernel
theorem dX1_nearestOther_7 : decode cX1_nearestOther 7 = .ok (.iload 4, 2) := by decide +kernel
theorem dX1_nearestOther_9 : decode cX1_nearestOther 9 = .ok (.aload_n 0, 1) := by decide +kernel
theorem dX1_nearestOther_10 : decode cX1_nearestOther 10 = .ok (.getfield 36, 3) := by decide +kernel
theorem dX1_nearestOther_13 : decode cX1_nearestOther 13 = .ok (.if_icmp .ge 47, 3) := by decide +kernel
theorem dX1_nearestOther_16 : decode cX1_nearestOther 16 = .ok (.iload 4, 2) := by decide +kernel
theorem dX1_nearestOther_18 : decode cX1_nearestOther 18 = .ok (.iload_n 1, 1) := by decide +kernel
theorem dX1_nearestOther_19 : decode cX1_nearestOther 19 = .ok (.if_icmp .ne 7, 3) := by decide +kernel
theorem dX1_nearestOther_22 : decode cX1_nearestOther 22 = .ok (.iconst 0, 1) := by decide +kernel
theorem dX1_nearestOther_23 : decode cX1_nearestOther 23 = .ok (.goto 17, 3) := by decide +kernel
theorem dX1_nearestOther_26 : decode cX1_nearestOther 26 = .ok (.aload_n 0, 1) := by decide +kernel
theorem dX1_nearestOther_27 : decode cX1_nearestOther 27 = .ok (.iload_n 1, 1) := by decide +kernel
theorem dX1_nearestOther_28 : decode cX1_nearestOther 28 = .ok (.invokevirtual 64, 3) := by decide +kernel
theorem dX1_nearestOther_31 : decode cX1_nearestOther 31 = .ok (.aload_n 0, 1) := by decide +kernel
theorem dX1_nearestOther_32 : decode cX1_nearestOther 32 = .ok (.iload 4, 2) := by decide +kernel
theorem dX1_nearestOther_34 : decode cX1_nearestOther 34 = .ok (.invokevirtual 64, 3) := by decide +kernel
theorem dX1_nearestOther_37 : decode cX1_nearestOther 37 = .ok (.invokevirtual 172, 3) := by decide +kernel
theorem dX1_nearestOther_40 : decode cX1_nearestOther 40 = .ok (.istore 5, 2) := by decide +kernel
theorem dX1_nearestOther_42 : decode cX1_nearestOther 42 = .ok (.iload 5, 2) := by decide +kernel
theorem dX1_nearestOther_44 : decode cX1_nearestOther 44 = .ok (.iload_n 3, 1) := by decide +kernel
theorem dX1_nearestOther_45 : decode cX1_nearestOther 45 = .ok (.if_icmp .le 9, 3) := by decide +kernel
theorem dX1_nearestOther_48 : decode cX1_nearestOther 48 = .ok (.iload 4, 2) := by decide +kernel
theorem dX1_nearestOther_50 : decode cX1_nearestOther 50 = .ok (.istore_n 2, 1) := by decide +kernel
theorem dX1_nearestOther_51 : decode cX1_nearestOther 51 = .ok (.iload 5, 2) := by decide +kernel
theorem dX1_nearestOther_53 : decode cX1_nearestOther 53 = .ok (.istore_n 3, 1) := by decide +kernel
theorem dX1_nearestOther_54 : decode cX1_nearestOther 54 = .ok (.iinc 4 1, 3) := by decide +kernel
theorem dX1_nearestOther_57 : decode cX1_nearestOther 57 = .ok (.goto (-50), 3) := by decide +kernel
theorem dX1_nearestOther_60 : decode cX1_nearestOther 60 = .ok (.iload_n 2, 1) := by decide +kernel
theorem dX1_nearestOther_61 : decode cX1_nearestOther 61 = .ok (.ireturn, 1) := by decide +kernel
theorem dX1_only_0 : decode cX1_only 0 = .ok (.iconst 1, 1) := by decide +kernel
theorem dX1_only_1 : decode cX1_only 1 = .ok (.iload_n 0, 1) := by decide +kernel
theorem dX1_only_2 : decode cX1_only 2 = .ok (.ishl, 1) := by decide +kernel
theorem dX1_only_3 : decode cX1_only 3 = .ok (.ireturn, 1) := by decide +kernel
theorem dX1_endOfSees_0 : decode cX1_endOfSees 0 = .ok (.iload_n 1, 1) := by decide +kernel
theorem dX1_endOfSees_1 : decode cX1_endOfSees 1 = .ok (.istore_n 2, 1) := by decide +kernel
theorem dX1_endOfSees_2 : decode cX1_endOfSees 2 = .ok (.iconst 0, 1) := by decide +kernel
theorem dX1_endOfSees_3 : decode cX1_endOfSees 3 = .ok (.istore_n 3, 1) := by decide +kernel
theorem dX1_endOfSees_4 : decode cX1_endOfSees 4 = .ok (.iload_n 3, 1) := by decide +kernel
theorem dX1_endOfSees_5 : decode cX1_endOfSees 5 = .ok (.aload_n 0, 1) := by decide +kernel
theorem dX1_endOfSees_6 : decode cX1_endOfSees 6 = .ok (.getfield 36, 3) := by decide +kernel
theorem dX1_endOfSees_9 : decode cX1_endOfSees 9 = .ok (.if_icmp .ge 27, 3) := by decide +kernel
theorem dX1_endOfSees_12 : decode cX1_endOfSees 12 = .ok (.aload_n 0, 1) := by decide +kernel
theorem dX1_endOfSees_13 : decode cX1_endOfSees 13 = .ok (.iload_n 2, 1) := by decide +kernel
theorem dX1_endOfSees_14 : decode cX1_endOfSees 14 = .ok (.invokevirtual 58, 3) := by decide +kernel
theorem dX1_endOfSees_17 : decode cX1_endOfSees 17 = .ok (.istore 4, 2) := by decide +kernel
theorem dX1_endOfSees_19 : decode cX1_endOfSees 19 = .ok (.iload 4, 2) := by decide +kernel
theorem dX1_endOfSees_21 : decode cX1_endOfSees 21 = .ok (.iconst (-1), 1) := by decide +kernel
theorem dX1_endOfSees_22 : decode cX1_endOfSees 22 = .ok (.if_icmp .ne 5, 3) := by decide +kernel
theorem dX1_endOfSees_25 : decode cX1_endOfSees 25 = .ok (.iload_n 2, 1) := by decide +kernel
theorem dX1_endOfSees_26 : decode cX1_endOfSees 26 = .ok (.ireturn, 1) := by decide +kernel
theorem dX1_endOfSees_27 : decode cX1_endOfSees 27 = .ok (.iload 4, 2) := by decide +kernel
theorem dX1_endOfSees_29 : decode cX1_endOfSees 29 = .ok (.istore_n 2, 1) := by decide +kernel
theorem dX1_endOfSees_30 : decode cX1_endOfSees 30 = .ok (.iinc 3 1, 3) := by decide +kernel
theorem dX1_endOfSees_33 : decode cX1_endOfSees 33 = .ok (.goto (-29), 3) := by decide +kernel
theorem dX1_endOfSees_36 : decode cX1_endOfSees 36 = .ok (.iconst (-1), 1) := by decide +kernel
theorem dX1_endOfSees_37 : decode cX1_endOfSees 37 = .ok (.ireturn, 1) := by decide +kernel
theorem dX1_isVainEnd_0 : decode cX1_isVainEnd 0 = .ok (.iload_n 1, 1) := by decide +kernel
theorem dX1_isVainEnd_1 : decode cX1_isVainEnd 1 = .ok (.iconst (-1), 1) := by decide +kernel
theorem dX1_isVainEnd_2 : decode cX1_isVainEnd 2 = .ok (.if_icmp .eq 14, 3) := by decide +kernel
theorem dX1_isVainEnd_5 : decode cX1_isVainEnd 5 = .ok (.aload_n 0, 1) := by decide +kernel
theorem dX1_isVainEnd_6 : decode cX1_isVainEnd 6 = .ok (.iload_n 1, 1) := by decide +kernel
theorem dX1_isVainEnd_7 : decode cX1_isVainEnd 7 = .ok (.invokevirtual 64, 3) := by decide +kernel
theorem dX1_isVainEnd_10 : decode cX1_isVainEnd 10 = .ok (.invokevirtual 82, 3) := by decide +kernel
theorem dX1_isVainEnd_13 : decode cX1_isVainEnd 13 = .ok (.ifCond .ne 7, 3) := by decide +kernel
theorem dX1_isVainEnd_16 : decode cX1_isVainEnd 16 = .ok (.iconst 1, 1) := by decide +kernel
theorem dX1_isVainEnd_17 : decode cX1_isVainEnd 17 = .ok (.goto 4, 3) := by decide +kernel
theorem dX1_isVainEnd_20 : decode cX1_isVainEnd 20 = .ok (.iconst 0, 1) := by decide +kernel
theorem dX1_isVainEnd_21 : decode cX1_isVainEnd 21 = .ok (.ireturn, 1) := by decide +kernel
theorem dX1_oneStepFrom_0 : decode cX1_oneStepFrom 0 = .ok (.iconst 0, 1) := by decide +kernel
theorem dX1_oneStepFrom_1 : decode cX1_oneStepFrom 1 = .ok (.istore_n 2, 1) := by decide +kernel
theorem dX1_oneStepFrom_2 : decode cX1_oneStepFrom 2 = .ok (.iconst 0, 1) := by decide +kernel
theorem dX1_oneStepFrom_3 : decode cX1_oneStepFrom 3 = .ok (.istore_n 3, 1) := by decide +kernel
theorem dX1_oneStepFrom_4 : decode cX1_oneStepFrom 4 = .ok (.iload_n 3, 1) := by decide +kernel
theorem dX1_oneStepFrom_5 : decode cX1_oneStepFrom 5 = .ok (.aload_n 0, 1) := by decide +kernel
theorem dX1_oneStepFrom_6 : decode cX1_oneStepFrom 6 = .ok (.getfield 36, 3) := by decide +kernel
theorem dX1_oneStepFrom_9 : decode cX1_oneStepFrom 9 = .ok (.if_icmp .ge 53, 3) := by decide +kernel
theorem dX1_oneStepFrom_12 : decode cX1_oneStepFrom 12 = .ok (.iload_n 1, 1) := by decide +kernel
theorem dX1_oneStepFrom_13 : decode cX1_oneStepFrom 13 = .ok (.iload_n 3, 1) := by decide +kernel
theorem dX1_oneStepFrom_14 : decode cX1_oneStepFrom 14 = .ok (.invokestatic 99, 3) := by decide +kernel
theorem dX1_oneStepFrom_17 : decode cX1_oneStepFrom 17 = .ok (.iand, 1) := by decide +kernel
theorem dX1_oneStepFrom_18 : decode cX1_oneStepFrom 18 = .ok (.ifCond .eq 38, 3) := by decide +kernel
theorem dX1_oneStepFrom_21 : decode cX1_oneStepFrom 21 = .ok (.iload_n 2, 1) := by decide +kernel
theorem dX1_oneStepFrom_22 : decode cX1_oneStepFrom 22 = .ok (.aload_n 0, 1) := by decide +kernel
theorem dX1_oneStepFrom_23 : decode cX1_oneStepFrom 23 = .ok (.getfield 20, 3) := by decide +kernel
theorem dX1_oneStepFrom_26 : decode cX1_oneStepFrom 26 = .ok (.iload_n 3, 1) := by decide +kernel
theorem dX1_oneStepFrom_27 : decode cX1_oneStepFrom 27 = .ok (.iaload, 1) := by decide +kernel
theorem dX1_oneStepFrom_28 : decode cX1_oneStepFrom 28 = .ok (.ior, 1) := by decide +kernel
theorem dX1_oneStepFrom_29 : decode cX1_oneStepFrom 29 = .ok (.istore_n 2, 1) := by decide +kernel
theorem dX1_oneStepFrom_30 : decode cX1_oneStepFrom 30 = .ok (.iload_n 2, 1) := by decide +kernel
theorem dX1_oneStepFrom_31 : decode cX1_oneStepFrom 31 = .ok (.aload_n 0, 1) := by decide +kernel
theorem dX1_oneStepFrom_32 : decode cX1_oneStepFrom 32 = .ok (.getfield 16, 3) := by decide +kernel
theorem dX1_oneStepFrom_35 : decode cX1_oneStepFrom 35 = .ok (.iload_n 3, 1) := by decide +kernel
theorem dX1_oneStepFrom_36 : decode cX1_oneStepFrom 36 = .ok (.iaload, 1) := by decide +kernel
theorem dX1_oneStepFrom_37 : decode cX1_oneStepFrom 37 = .ok (.iconst (-1), 1) := by decide +kernel
theorem dX1_oneStepFrom_38 : decode cX1_oneStepFrom 38 = .ok (.if_icmp .ne 7, 3) := by decide +kernel
theorem dX1_oneStepFrom_41 : decode cX1_oneStepFrom 41 = .ok (.iconst 0, 1) := by decide +kernel
theorem dX1_oneStepFrom_42 : decode cX1_oneStepFrom 42 = .ok (.goto 12, 3) := by decide +kernel
theorem dX1_oneStepFrom_45 : decode cX1_oneStepFrom 45 = .ok (.aload_n 0, 1) := by decide +kernel
theorem dX1_oneStepFrom_46 : decode cX1_oneStepFrom 46 = .ok (.getfield 16, 3) := by decide +kernel
theorem dX1_oneStepFrom_49 : decode cX1_oneStepFrom 49 = .ok (.iload_n 3, 1) := by decide +kernel
theorem dX1_oneStepFrom_50 : decode cX1_oneStepFrom 50 = .ok (.iaload, 1) := by decide +kernel
theorem dX1_oneStepFrom_51 : decode cX1_oneStepFrom 51 = .ok (.invokestatic 99, 3) := by decide +kernel
theorem dX1_oneStepFrom_54 : decode cX1_oneStepFrom 54 = .ok (.ior, 1) := by decide +kernel
theorem dX1_oneStepFrom_55 : decode cX1_oneStepFrom 55 = .ok (.istore_n 2, 1) := by decide +kernel
theorem dX1_oneStepFrom_56 : decode cX1_oneStepFrom 56 = .ok (.iinc 3 1, 3) := by decide +kernel
theorem dX1_oneStepFrom_59 : decode cX1_oneStepFrom 59 = .ok (.goto (-55), 3) := by decide +kernel
theorem dX1_oneStepFrom_62 : decode cX1_oneStepFrom 62 = .ok (.iload_n 2, 1) := by decide +kernel
theorem dX1_oneStepFrom_63 : decode cX1_oneStepFrom 63 = .ok (.ireturn, 1) := by decide +kernel
theorem dX1_allStepsFrom_0 : decode cX1_allStepsFrom 0 = .ok (.iload_n 1, 1) := by decide +kernel
theorem dX1_allStepsFrom_1 : decode cX1_allStepsFrom 1 = .ok (.istore_n 2, 1) := by decide +kernel
theorem dX1_allStepsFrom_2 : decode cX1_allStepsFrom 2 = .ok (.iconst 0, 1) := by decide +kernel
theorem dX1_allStepsFrom_3 : decode cX1_allStepsFrom 3 = .ok (.istore_n 3, 1) := by decide +kernel
theorem dX1_allStepsFrom_4 : decode cX1_allStepsFrom 4 = .ok (.iload_n 3, 1) := by decide +kernel
theorem dX1_allStepsFrom_5 : decode cX1_allStepsFrom 5 = .ok (.aload_n 0, 1) := by decide +kernel
theorem dX1_allStepsFrom_6 : decode cX1_allStepsFrom 6 = .ok (.getfield 36, 3) := by decide +kernel
theorem dX1_allStepsFrom_9 : decode cX1_allStepsFrom 9 = .ok (.if_icmp .ge 29, 3) := by decide +kernel
theorem dX1_allStepsFrom_12 : decode cX1_allStepsFrom 12 = .ok (.iload_n 2, 1) := by decide +kernel
theorem dX1_allStepsFrom_13 : decode cX1_allStepsFrom 13 = .ok (.istore 4, 2) := by decide +kernel
theorem dX1_allStepsFrom_15 : decode cX1_allStepsFrom 15 = .ok (.iload_n 2, 1) := by decide +kernel
theorem dX1_allStepsFrom_16 : decode cX1_allStepsFrom 16 = .ok (.aload_n 0, 1) := by decide +kernel
theorem dX1_allStepsFrom_17 : decode cX1_allStepsFrom 17 = .ok (.iload 4, 2) := by decide +kernel
theorem dX1_allStepsFrom_19 : decode cX1_allStepsFrom 19 = .ok (.invokevirtual 158, 3) := by decide +kernel
theorem dX1_allStepsFrom_22 : decode cX1_allStepsFrom 22 = .ok (.ior, 1) := by decide +kernel
theorem dX1_allStepsFrom_23 : decode cX1_allStepsFrom 23 = .ok (.istore_n 2, 1) := by decide +kernel
theorem dX1_allStepsFrom_24 : decode cX1_allStepsFrom 24 = .ok (.iload_n 2, 1) := by decide +kernel
theorem dX1_allStepsFrom_25 : decode cX1_allStepsFrom 25 = .ok (.iload 4, 2) := by decide +kernel
theorem dX1_allStepsFrom_27 : decode cX1_allStepsFrom 27 = .ok (.if_icmp .ne 5, 3) := by decide +kernel
theorem dX1_allStepsFrom_30 : decode cX1_allStepsFrom 30 = .ok (.iload_n 2, 1) := by decide +kernel
theorem dX1_allStepsFrom_31 : decode cX1_allStepsFrom 31 = .ok (.ireturn, 1) := by decide +kernel
theorem dX1_allStepsFrom_32 : decode cX1_allStepsFrom 32 = .ok (.iinc 3 1, 3) := by decide +kernel
theorem dX1_allStepsFrom_35 : decode cX1_allStepsFrom 35 = .ok (.goto (-31), 3) := by decide +kernel
theorem dX1_allStepsFrom_38 : decode cX1_allStepsFrom 38 = .ok (.iload_n 2, 1) := by decide +kernel
theorem dX1_allStepsFrom_39 : decode cX1_allStepsFrom 39 = .ok (.ireturn, 1) := by decide +kernel
theorem dX1_countReached_0 : decode cX1_countReached 0 = .ok (.aload_n 0, 1) := by decide +kernel
theorem dX1_countReached_1 : decode cX1_countReached 1 = .ok (.iload_n 1, 1) := by decide +kernel
theorem dX1_countReached_2 : decode cX1_countReached 2 = .ok (.invokestatic 99, 3) := by decide +kernel
theorem dX1_countReached_5 : decode cX1_countReached 5 = .ok (.invokevirtual 235, 3) := by decide +kernel
theorem dX1_countReached_8 : decode cX1_countReached 8 = .ok (.invokestatic 102, 3) := by decide +kernel
theorem dX1_countReached_11 : decode cX1_countReached 11 = .ok (.ireturn, 1) := by decide +kernel
theorem dX1_comesBack_0 : decode cX1_comesBack 0 = .ok (.aload_n 0, 1) := by decide +kernel
theorem dX1_comesBack_1 : decode cX1_comesBack 1 = .ok (.iload_n 1, 1) := by decide +kernel
theorem dX1_comesBack_2 : decode cX1_comesBack 2 = .ok (.invokestatic 99, 3) := by decide +kernel
theorem dX1_comesBack_5 : decode cX1_comesBack 5 = .ok (.invokevirtual 158, 3) := by decide +kernel
theorem dX1_comesBack_8 : decode cX1_comesBack 8 = .ok (.istore_n 2, 1) := by decide +kernel
theorem dX1_comesBack_9 : decode cX1_comesBack 9 = .ok (.aload_n 0, 1) := by decide +kernel
theorem dX1_comesBack_10 : decode cX1_comesBack 10 = .ok (.iload_n 2, 1) := by decide +kernel
theorem dX1_comesBack_11 : decode cX1_comesBack 11 = .ok (.invokevirtual 235, 3) := by decide +kernel
theorem dX1_comesBack_14 : decode cX1_comesBack 14 = .ok (.iload_n 1, 1) := by decide +kernel
theorem dX1_comesBack_15 : decode cX1_comesBack 15 = .ok (.invokestatic 99, 3) := by decide +kernel
theorem dX1_comesBack_18 : decode cX1_comesBack 18 = .ok (.iand, 1) := by decide +kernel
theorem dX1_comesBack_19 : decode cX1_comesBack 19 = .ok (.ifCond .eq 7, 3) := by decide +kernel
theorem dX1_comesBack_22 : decode cX1_comesBack 22 = .ok (.iconst 1, 1) := by decide +kernel
theorem dX1_comesBack_23 : decode cX1_comesBack 23 = .ok (.goto 4, 3) := by decide +kernel
theorem dX1_comesBack_26 : decode cX1_comesBack 26 = .ok (.iconst 0, 1) := by decide +kernel
theorem dX1_comesBack_27 : decode cX1_comesBack 27 = .ok (.ireturn, 1) := by decide +kernel
