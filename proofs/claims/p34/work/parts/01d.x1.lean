theorem dX1_init_0 : decode cX1_init 0 = .ok (.aload_n 0, 1) := by decide +kernel
theorem dX1_init_1 : decode cX1_init 1 = .ok (.invokespecial 3, 3) := by decide +kernel
theorem dX1_init_4 : decode cX1_init 4 = .ok (.aload_n 0, 1) := by decide +kernel
theorem dX1_init_5 : decode cX1_init 5 = .ok (.bipush 24, 2) := by decide +kernel
theorem dX1_init_7 : decode cX1_init 7 = .ok (.anewarray 9, 3) := by decide +kernel
theorem dX1_init_10 : decode cX1_init 10 = .ok (.putfield 11, 3) := by decide +kernel
theorem dX1_init_13 : decode cX1_init 13 = .ok (.iconst 0, 1) := by decide +kernel
theorem dX1_init_14 : decode cX1_init 14 = .ok (.istore_n 1, 1) := by decide +kernel
theorem dX1_init_15 : decode cX1_init 15 = .ok (.iload_n 1, 1) := by decide +kernel
theorem dX1_init_16 : decode cX1_init 16 = .ok (.bipush 24, 2) := by decide +kernel
theorem dX1_init_18 : decode cX1_init 18 = .ok (.if_icmp .ge 22, 3) := by decide +kernel
theorem dX1_init_21 : decode cX1_init 21 = .ok (.aload_n 0, 1) := by decide +kernel
theorem dX1_init_22 : decode cX1_init 22 = .ok (.getfield 11, 3) := by decide +kernel
theorem dX1_init_25 : decode cX1_init 25 = .ok (.iload_n 1, 1) := by decide +kernel
theorem dX1_init_26 : decode cX1_init 26 = .ok (.new 9, 3) := by decide +kernel
theorem dX1_init_29 : decode cX1_init 29 = .ok (.dup, 1) := by decide +kernel
theorem dX1_init_30 : decode cX1_init 30 = .ok (.invokespecial 15, 3) := by decide +kernel
theorem dX1_init_33 : decode cX1_init 33 = .ok (.aastore, 1) := by decide +kernel
theorem dX1_init_34 : decode cX1_init 34 = .ok (.iinc 1 1, 3) := by decide +kernel
theorem dX1_init_37 : decode cX1_init 37 = .ok (.goto (-22), 3) := by decide +kernel
theorem dX1_init_40 : decode cX1_init 40 = .ok (.aload_n 0, 1) := by decide +kernel
theorem dX1_init_41 : decode cX1_init 41 = .ok (.bipush 24, 2) := by decide +kernel
theorem dX1_init_43 : decode cX1_init 43 = .ok (.newarray .int, 2) := by decide +kernel
theorem dX1_init_45 : decode cX1_init 45 = .ok (.putfield 16, 3) := by decide +kernel
theorem dX1_init_48 : decode cX1_init 48 = .ok (.aload_n 0, 1) := by decide +kernel
theorem dX1_init_49 : decode cX1_init 49 = .ok (.bipush 24, 2) := by decide +kernel
theorem dX1_init_51 : decode cX1_init 51 = .ok (.newarray .int, 2) := by decide +kernel
theorem dX1_init_53 : decode cX1_init 53 = .ok (.putfield 20, 3) := by decide +kernel
theorem dX1_init_56 : decode cX1_init 56 = .ok (.aload_n 0, 1) := by decide +kernel
theorem dX1_init_57 : decode cX1_init 57 = .ok (.sipush 302, 3) := by decide +kernel
theorem dX1_init_60 : decode cX1_init 60 = .ok (.newarray .int, 2) := by decide +kernel
theorem dX1_init_62 : decode cX1_init 62 = .ok (.putfield 23, 3) := by decide +kernel
theorem dX1_init_65 : decode cX1_init 65 = .ok (.aload_n 0, 1) := by decide +kernel
theorem dX1_init_66 : decode cX1_init 66 = .ok (.new 9, 3) := by decide +kernel
theorem dX1_init_69 : decode cX1_init 69 = .ok (.dup, 1) := by decide +kernel
theorem dX1_init_70 : decode cX1_init 70 = .ok (.invokespecial 15, 3) := by decide +kernel
theorem dX1_init_73 : decode cX1_init 73 = .ok (.putfield 26, 3) := by decide +kernel
theorem dX1_init_76 : decode cX1_init 76 = .ok (.aload_n 0, 1) := by decide +kernel
theorem dX1_init_77 : decode cX1_init 77 = .ok (.new 9, 3) := by decide +kernel
theorem dX1_init_80 : decode cX1_init 80 = .ok (.dup, 1) := by decide +kernel
theorem dX1_init_81 : decode cX1_init 81 = .ok (.invokespecial 15, 3) := by decide +kernel
theorem dX1_init_84 : decode cX1_init 84 = .ok (.putfield 30, 3) := by decide +kernel
theorem dX1_init_87 : decode cX1_init 87 = .ok (.aload_n 0, 1) := by decide +kernel
theorem dX1_init_88 : decode cX1_init 88 = .ok (.new 9, 3) := by decide +kernel
theorem dX1_init_91 : decode cX1_init 91 = .ok (.dup, 1) := by decide +kernel
theorem dX1_init_92 : decode cX1_init 92 = .ok (.invokespecial 15, 3) := by decide +kernel
theorem dX1_init_95 : decode cX1_init 95 = .ok (.putfield 33, 3) := by decide +kernel
theorem dX1_init_98 : decode cX1_init 98 = .ok (.aload_n 0, 1) := by decide +kernel
theorem dX1_init_99 : decode cX1_init 99 = .ok (.iconst 0, 1) := by decide +kernel
theorem dX1_init_100 : decode cX1_init 100 = .ok (.putfield 36, 3) := by decide +kernel
theorem dX1_init_103 : decode cX1_init 103 = .ok (.aload_n 0, 1) := by decide +kernel
theorem dX1_init_104 : decode cX1_init 104 = .ok (.bipush 100, 2) := by decide +kernel
theorem dX1_init_106 : decode cX1_init 106 = .ok (.putfield 40, 3) := by decide +kernel
theorem dX1_init_109 : decode cX1_init 109 = .ok (.return_, 1) := by decide +kernel
theorem dX1_addHeading_0 : decode cX1_addHeading 0 = .ok (.aload_n 0, 1) := by decide +kernel
theorem dX1_addHeading_1 : decode cX1_addHeading 1 = .ok (.getfield 36, 3) := by decide +kernel
theorem dX1_addHeading_4 : decode cX1_addHeading 4 = .ok (.bipush 24, 2) := by decide +kernel
theorem dX1_addHeading_6 : decode cX1_addHeading 6 = .ok (.if_icmp .lt 13, 3) := by decide +kernel
theorem dX1_addHeading_9 : decode cX1_addHeading 9 = .ok (.new 43, 3) := by decide +kernel
theorem dX1_addHeading_12 : decode cX1_addHeading 12 = .ok (.dup, 1) := by decide +kernel
theorem dX1_addHeading_13 : decode cX1_addHeading 13 = .ok (.ldc 45, 2) := by decide +kernel
theorem dX1_addHeading_15 : decode cX1_addHeading 15 = .ok (.invokespecial 47, 3) := by decide +kernel
theorem dX1_addHeading_18 : decode cX1_addHeading 18 = .ok (.athrow, 1) := by decide +kernel
theorem dX1_addHeading_19 : decode cX1_addHeading 19 = .ok (.aload_n 0, 1) := by decide +kernel
theorem dX1_addHeading_20 : decode cX1_addHeading 20 = .ok (.getfield 36, 3) := by decide +kernel
theorem dX1_addHeading_23 : decode cX1_addHeading 23 = .ok (.istore_n 1, 1) := by decide +kernel
theorem dX1_addHeading_24 : decode cX1_addHeading 24 = .ok (.aload_n 0, 1) := by decide +kernel
theorem dX1_addHeading_25 : decode cX1_addHeading 25 = .ok (.getfield 16, 3) := by decide +kernel
theorem dX1_addHeading_28 : decode cX1_addHeading 28 = .ok (.iload_n 1, 1) := by decide +kernel
theorem dX1_addHeading_29 : decode cX1_addHeading 29 = .ok (.iconst (-1), 1) := by decide +kernel
theorem dX1_addHeading_30 : decode cX1_addHeading 30 = .ok (.iastore, 1) := by decide +kernel
theorem dX1_addHeading_31 : decode cX1_addHeading 31 = .ok (.aload_n 0, 1) := by decide +kernel
theorem dX1_addHeading_32 : decode cX1_addHeading 32 = .ok (.dup, 1) := by decide +kernel
theorem dX1_addHeading_33 : decode cX1_addHeading 33 = .ok (.getfield 36, 3) := by decide +kernel
theorem dX1_addHeading_36 : decode cX1_addHeading 36 = .ok (.iconst 1, 1) := by decide +kernel
theorem dX1_addHeading_37 : decode cX1_addHeading 37 = .ok (.iadd, 1) := by decide +kernel
theorem dX1_addHeading_38 : decode cX1_addHeading 38 = .ok (.putfield 36, 3) := by decide +kernel
theorem dX1_addHeading_41 : decode cX1_addHeading 41 = .ok (.iload_n 1, 1) := by decide +kernel
theorem dX1_addHeading_42 : decode cX1_addHeading 42 = .ok (.ireturn, 1) := by decide +kernel
theorem dX1_addPages_0 : decode cX1_addPages 0 = .ok (.aload_n 0, 1) := by decide +kernel
theorem dX1_addPages_1 : decode cX1_addPages 1 = .ok (.iload_n 1, 1) := by decide +kernel
theorem dX1_addPages_2 : decode cX1_addPages 2 = .ok (.invokevirtual 50, 3) := by decide +kernel
theorem dX1_addPages_5 : decode cX1_addPages 5 = .ok (.aload_n 0, 1) := by decide +kernel
theorem dX1_addPages_6 : decode cX1_addPages 6 = .ok (.iload_n 2, 1) := by decide +kernel
theorem dX1_addPages_7 : decode cX1_addPages 7 = .ok (.iload_n 3, 1) := by decide +kernel
theorem dX1_addPages_8 : decode cX1_addPages 8 = .ok (.invokevirtual 54, 3) := by decide +kernel
theorem dX1_addPages_11 : decode cX1_addPages 11 = .ok (.aload_n 0, 1) := by decide +kernel
theorem dX1_addPages_12 : decode cX1_addPages 12 = .ok (.iload_n 1, 1) := by decide +kernel
theorem dX1_addPages_13 : decode cX1_addPages 13 = .ok (.invokevirtual 58, 3) := by decide +kernel
theorem dX1_addPages_16 : decode cX1_addPages 16 = .ok (.iconst (-1), 1) := by decide +kernel
theorem dX1_addPages_17 : decode cX1_addPages 17 = .ok (.if_icmp .eq 13, 3) := by decide +kernel
theorem dX1_addPages_20 : decode cX1_addPages 20 = .ok (.new 43, 3) := by decide +kernel
theorem dX1_addPages_23 : decode cX1_addPages 23 = .ok (.dup, 1) := by decide +kernel
theorem dX1_addPages_24 : decode cX1_addPages 24 = .ok (.ldc 62, 2) := by decide +kernel
theorem dX1_addPages_26 : decode cX1_addPages 26 = .ok (.invokespecial 47, 3) := by decide +kernel
theorem dX1_addPages_29 : decode cX1_addPages 29 = .ok (.athrow, 1) := by decide +kernel
theorem dX1_addPages_30 : decode cX1_addPages 30 = .ok (.aload_n 0, 1) := by decide +kernel
theorem dX1_addPages_31 : decode cX1_addPages 31 = .ok (.iload_n 1, 1) := by decide +kernel
theorem dX1_addPages_32 : decode cX1_addPages 32 = .ok (.invokevirtual 64, 3) := by decide +kernel
theorem dX1_addPages_35 : decode cX1_addPages 35 = .ok (.astore 4, 2) := by decide +kernel
theorem dX1_addPages_37 : decode cX1_addPages 37 = .ok (.aload_n 0, 1) := by decide +kernel
theorem dX1_addPages_38 : decode cX1_addPages 38 = .ok (.getfield 26, 3) := by decide +kernel
theorem dX1_addPages_41 : decode cX1_addPages 41 = .ok (.iload_n 2, 1) := by decide +kernel
theorem dX1_addPages_42 : decode cX1_addPages 42 = .ok (.iload_n 3, 1) := by decide +kernel
theorem dX1_addPages_43 : decode cX1_addPages 43 = .ok (.invokevirtual 68, 3) := by decide +kernel
theorem dX1_addPages_46 : decode cX1_addPages 46 = .ok (.aload_n 0, 1) := by decide +kernel
theorem dX1_addPages_47 : decode cX1_addPages 47 = .ok (.getfield 30, 3) := by decide +kernel
theorem dX1_addPages_50 : decode cX1_addPages 50 = .ok (.aload 4, 2) := by decide +kernel
theorem dX1_addPages_52 : decode cX1_addPages 52 = .ok (.aload_n 0, 1) := by decide +kernel
theorem dX1_addPages_53 : decode cX1_addPages 53 = .ok (.getfield 26, 3) := by decide +kernel
theorem dX1_addPages_56 : decode cX1_addPages 56 = .ok (.invokevirtual 71, 3) := by decide +kernel
theorem dX1_addPages_59 : decode cX1_addPages 59 = .ok (.aload_n 0, 1) := by decide +kernel
theorem dX1_addPages_60 : decode cX1_addPages 60 = .ok (.invokevirtual 75, 3) := by decide +kernel
theorem dX1_addPages_63 : decode cX1_addPages 63 = .ok (.aload 4, 2) := by decide +kernel
theorem dX1_addPages_65 : decode cX1_addPages 65 = .ok (.aload_n 0, 1) := by decide +kernel
theorem dX1_addPages_66 : decode cX1_addPages 66 = .ok (.getfield 30, 3) := by decide +kernel
theorem dX1_addPages_69 : decode cX1_addPages 69 = .ok (.invokevirtual 78, 3) := by decide +kernel
theorem dX1_addPages_72 : decode cX1_addPages 72 = .ok (.aload 4, 2) := by decide +kernel
theorem dX1_addPages_74 : decode cX1_addPages 74 = .ok (.invokevirtual 82, 3) := by decide +kernel
theorem dX1_addPages_77 : decode cX1_addPages 77 = .ok (.ireturn, 1) := by decide +kernel
theorem dX1_takePages_0 : decode cX1_takePages 0 = .ok (.aload_n 0, 1) := by decide +kernel
theorem dX1_takePages_1 : decode cX1_takePages 1 = .ok (.iload_n 1, 1) := by decide +kernel
theorem dX1_takePages_2 : decode cX1_takePages 2 = .ok (.invokevirtual 50, 3) := by decide +kernel
theorem dX1_takePages_5 : decode cX1_takePages 5 = .ok (.aload_n 0, 1) := by decide +kernel
theorem dX1_takePages_6 : decode cX1_takePages 6 = .ok (.iload_n 2, 1) := by decide +kernel
theorem dX1_takePages_7 : decode cX1_takePages 7 = .ok (.iload_n 3, 1) := by decide +kernel
theorem dX1_takePages_8 : decode cX1_takePages 8 = .ok (.invokevirtual 54, 3) := by decide +kernel
theorem dX1_takePages_11 : decode cX1_takePages 11 = .ok (.aload_n 0, 1) := by decide +kernel
theorem dX1_takePages_12 : decode cX1_takePages 12 = .ok (.iload_n 1, 1) := by decide +kernel
theorem dX1_takePages_13 : decode cX1_takePages 13 = .ok (.invokevirtual 64, 3) := by decide +kernel
theorem dX1_takePages_16 : decode cX1_takePages 16 = .ok (.astore 4, 2) := by decide +kernel
theorem dX1_takePages_18 : decode cX1_takePages 18 = .ok (.aload_n 0, 1) := by decide +kernel
theorem dX1_takePages_19 : decode cX1_takePages 19 = .ok (.getfield 30, 3) := by decide +kernel
theorem dX1_takePages_22 : decode cX1_takePages 22 = .ok (.aload 4, 2) := by decide +kernel
theorem dX1_takePages_24 : decode cX1_takePages 24 = .ok (.iload_n 2, 1) := by decide +kernel
theorem dX1_takePages_25 : decode cX1_takePages 25 = .ok (.iload_n 3, 1) := by decide +kernel
theorem dX1_takePages_26 : decode cX1_takePages 26 = .ok (.invokevirtual 86, 3) := by decide +kernel
theorem dX1_takePages_29 : decode cX1_takePages 29 = .ok (.aload_n 0, 1) := by decide +kernel
theorem dX1_takePages_30 : decode cX1_takePages 30 = .ok (.invokevirtual 75, 3) := by decide +kernel
theorem dX1_takePages_33 : decode cX1_takePages 33 = .ok (.aload 4, 2) := by decide +kernel
theorem dX1_takePages_35 : decode cX1_takePages 35 = .ok (.invokevirtual 90, 3) := by decide +kernel
theorem dX1_takePages_38 : decode cX1_takePages 38 = .ok (.aload_n 0, 1) := by decide +kernel
theorem dX1_takePages_39 : decode cX1_takePages 39 = .ok (.getfield 30, 3) := by decide +kernel
theorem dX1_takePages_42 : decode cX1_takePages 42 = .ok (.invokevirtual 90, 3) := by decide +kernel
theorem dX1_takePages_45 : decode cX1_takePages 45 = .ok (.isub, 1) := by decide +kernel
theorem dX1_takePages_46 : decode cX1_takePages 46 = .ok (.istore 5, 2) := by decide +kernel
theorem dX1_takePages_48 : decode cX1_takePages 48 = .ok (.aload 4, 2) := by decide +kernel
theorem dX1_takePages_50 : decode cX1_takePages 50 = .ok (.aload_n 0, 1) := by decide +kernel
theorem dX1_takePages_51 : decode cX1_takePages 51 = .ok (.getfield 30, 3) := by decide +kernel
theorem dX1_takePages_54 : decode cX1_takePages 54 = .ok (.invokevirtual 78, 3) := by decide +kernel
theorem dX1_takePages_57 : decode cX1_takePages 57 = .ok (.iload 5, 2) := by decide +kernel
theorem dX1_takePages_59 : decode cX1_takePages 59 = .ok (.ireturn, 1) := by decide +kernel
theorem dX1_setSee_0 : decode cX1_setSee 0 = .ok (.aload_n 0, 1) := by decide +kernel
theorem dX1_setSee_1 : decode cX1_setSee 1 = .ok (.iload_n 1, 1) := by decide +kernel
theorem dX1_setSee_2 : decode cX1_setSee 2 = .ok (.invokevirtual 50, 3) := by decide +kernel
theorem dX1_setSee_5 : decode cX1_setSee 5 = .ok (.iload_n 2, 1) := by decide +kernel
theorem dX1_setSee_6 : decode cX1_setSee 6 = .ok (.iconst (-1), 1) := by decide +kernel
theorem dX1_setSee_7 : decode cX1_setSee 7 = .ok (.if_icmp .eq 19, 3) := by decide +kernel
theorem dX1_setSee_10 : decode cX1_setSee 10 = .ok (.aload_n 0, 1) := by decide +kernel
theorem dX1_setSee_11 : decode cX1_setSee 11 = .ok (.iload_n 2, 1) := by decide +kernel
theorem dX1_setSee_12 : decode cX1_setSee 12 = .ok (.invokevirtual 50, 3) := by decide +kernel
theorem dX1_setSee_15 : decode cX1_setSee 15 = .ok (.aload_n 0, 1) := by decide +kernel
theorem dX1_setSee_16 : decode cX1_setSee 16 = .ok (.iload_n 1, 1) := by decide +kernel
theorem dX1_setSee_17 : decode cX1_setSee 17 = .ok (.iload_n 2, 1) := by decide +kernel
theorem dX1_setSee_18 : decode cX1_setSee 18 = .ok (.invokevirtual 93, 3) := by decide +kernel
theorem dX1_setSee_21 : decode cX1_setSee 21 = .ok (.aload_n 0, 1) := by decide +kernel
theorem dX1_setSee_22 : decode cX1_setSee 22 = .ok (.iload_n 1, 1) := by decide +kernel
theorem dX1_setSee_23 : decode cX1_setSee 23 = .ok (.invokevirtual 96, 3) := by decide +kernel
theorem dX1_setSee_26 : decode cX1_setSee 26 = .ok (.aload_n 0, 1) := by decide +kernel
theorem dX1_setSee_27 : decode cX1_setSee 27 = .ok (.getfield 16, 3) := by decide +kernel
theorem dX1_setSee_30 : decode cX1_setSee 30 = .ok (.iload_n 1, 1) := by decide +kernel
theorem dX1_setSee_31 : decode cX1_setSee 31 = .ok (.iaload, 1) := by decide +kernel
theorem dX1_setSee_32 : decode cX1_setSee 32 = .ok (.istore_n 3, 1) := by decide +kernel
theorem dX1_setSee_33 : decode cX1_setSee 33 = .ok (.aload_n 0, 1) := by decide +kernel
theorem dX1_setSee_34 : decode cX1_setSee 34 = .ok (.getfield 16, 3) := by decide +kernel
theorem dX1_setSee_37 : decode cX1_setSee 37 = .ok (.iload_n 1, 1) := by decide +kernel
theorem dX1_setSee_38 : decode cX1_setSee 38 = .ok (.iload_n 2, 1) := by decide +kernel
theorem dX1_setSee_39 : decode cX1_setSee 39 = .ok (.iastore, 1) := by decide +kernel
theorem dX1_setSee_40 : decode cX1_setSee 40 = .ok (.iload_n 3, 1) := by decide +kernel
theorem dX1_setSee_41 : decode cX1_setSee 41 = .ok (.ireturn, 1) := by decide +kernel
theorem dX1_turnSeeAlso_0 : decode cX1_turnSeeAlso 0 = .ok (.aload_n 0, 1) := by decide +kernel
theorem dX1_turnSeeAlso_1 : decode cX1_turnSeeAlso 1 = .ok (.iload_n 1, 1) := by decide +kernel
theorem dX1_turnSeeAlso_2 : decode cX1_turnSeeAlso 2 = .ok (.invokevirtual 50, 3) := by decide +kernel
theorem dX1_turnSeeAlso_5 : decode cX1_turnSeeAlso 5 = .ok (.aload_n 0, 1) := by decide +kernel
theorem dX1_turnSeeAlso_6 : decode cX1_turnSeeAlso 6 = .ok (.iload_n 2, 1) := by decide +kernel
theorem dX1_turnSeeAlso_7 : decode cX1_turnSeeAlso 7 = .ok (.invokevirtual 50, 3) := by decide +kernel
theorem dX1_turnSeeAlso_10 : decode cX1_turnSeeAlso 10 = .ok (.aload_n 0, 1) := by decide +kernel
theorem dX1_turnSeeAlso_11 : decode cX1_turnSeeAlso 11 = .ok (.iload_n 1, 1) := by decide +kernel
theorem dX1_turnSeeAlso_12 : decode cX1_turnSeeAlso 12 = .ok (.iload_n 2, 1) := by decide +kernel
theorem dX1_turnSeeAlso_13 : decode cX1_turnSeeAlso 13 = .ok (.invokevirtual 93, 3) := by decide +kernel
theorem dX1_turnSeeAlso_16 : decode cX1_turnSeeAlso 16 = .ok (.aload_n 0, 1) := by decide +kernel
theorem dX1_turnSeeAlso_17 : decode cX1_turnSeeAlso 17 = .ok (.getfield 20, 3) := by decide +kernel
theorem dX1_turnSeeAlso_20 : decode cX1_turnSeeAlso 20 = .ok (.iload_n 1, 1) := by decide +kernel
theorem dX1_turnSeeAlso_21 : decode cX1_turnSeeAlso 21 = .ok (.iaload, 1) := by decide +kernel
theorem dX1_turnSeeAlso_22 : decode cX1_turnSeeAlso 22 = .ok (.iload_n 2, 1) := by decide +kernel
theorem dX1_turnSeeAlso_23 : decode cX1_turnSeeAlso 23 = .ok (.invokestatic 99, 3) := by decide +kernel
theorem dX1_turnSeeAlso_26 : decode cX1_turnSeeAlso 26 = .ok (.ixor, 1) := by decide +kernel
theorem dX1_turnSeeAlso_27 : decode cX1_turnSeeAlso 27 = .ok (.istore_n 3, 1) := by decide +kernel
theorem dX1_turnSeeAlso_28 : decode cX1_turnSeeAlso 28 = .ok (.iload_n 3, 1) := by decide +kernel
theorem dX1_turnSeeAlso_29 : decode cX1_turnSeeAlso 29 = .ok (.invokestatic 102, 3) := by decide +kernel
theorem dX1_turnSeeAlso_32 : decode cX1_turnSeeAlso 32 = .ok (.iconst 4, 1) := by decide +kernel
theorem dX1_turnSeeAlso_33 : decode cX1_turnSeeAlso 33 = .ok (.if_icmp .le 13, 3) := by decide +kernel
theorem dX1_turnSeeAlso_36 : decode cX1_turnSeeAlso 36 = .ok (.new 43, 3) := by decide +kernel
theorem dX1_turnSeeAlso_39 : decode cX1_turnSeeAlso 39 = .ok (.dup, 1) := by decide +kernel
theorem dX1_turnSeeAlso_40 : decode cX1_turnSeeAlso 40 = .ok (.ldc 107, 2) := by decide +kernel
theorem dX1_turnSeeAlso_42 : decode cX1_turnSeeAlso 42 = .ok (.invokespecial 47, 3) := by decide +kernel
theorem dX1_turnSeeAlso_45 : decode cX1_turnSeeAlso 45 = .ok (.athrow, 1) := by decide +kernel
theorem dX1_turnSeeAlso_46 : decode cX1_turnSeeAlso 46 = .ok (.aload_n 0, 1) := by decide +kernel
theorem dX1_turnSeeAlso_47 : decode cX1_turnSeeAlso 47 = .ok (.getfield 20, 3) := by decide +kernel
theorem dX1_turnSeeAlso_50 : decode cX1_turnSeeAlso 50 = .ok (.iload_n 1, 1) := by decide +kernel
theorem dX1_turnSeeAlso_51 : decode cX1_turnSeeAlso 51 = .ok (.iload_n 3, 1) := by decide +kernel
theorem dX1_turnSeeAlso_52 : decode cX1_turnSeeAlso 52 = .ok (.iastore, 1) := by decide +kernel
theorem dX1_turnSeeAlso_53 : decode cX1_turnSeeAlso 53 = .ok (.iload_n 3, 1) := by decide +kernel
theorem dX1_turnSeeAlso_54 : decode cX1_turnSeeAlso 54 = .ok (.invokestatic 102, 3) := by decide +kernel
theorem dX1_turnSeeAlso_57 : decode cX1_turnSeeAlso 57 = .ok (.ireturn, 1) := by decide +kernel
theorem dX1_putIn_0 : decode cX1_putIn 0 = .ok (.iload_n 1, 1) := by decide +kernel
theorem dX1_putIn_1 : decode cX1_putIn 1 = .ok (.iconst 1, 1) := by decide +kernel
theorem dX1_putIn_2 : decode cX1_putIn 2 = .ok (.if_icmp .lt 13, 3) := by decide +kernel
theorem dX1_putIn_5 : decode cX1_putIn 5 = .ok (.iload_n 1, 1) := by decide +kernel
theorem dX1_putIn_6 : decode cX1_putIn 6 = .ok (.aload_n 0, 1) := by decide +kernel
theorem dX1_putIn_7 : decode cX1_putIn 7 = .ok (.getfield 40, 3) := by decide +kernel
theorem dX1_putIn_10 : decode cX1_putIn 10 = .ok (.iconst 1, 1) := by decide +kernel
theorem dX1_putIn_11 : decode cX1_putIn 11 = .ok (.iadd, 1) := by decide +kernel
theorem dX1_putIn_12 : decode cX1_putIn 12 = .ok (.if_icmp .le 13, 3) := by decide +kernel
theorem dX1_putIn_15 : decode cX1_putIn 15 = .ok (.new 109, 3) := by decide +kernel
theorem dX1_putIn_18 : decode cX1_putIn 18 = .ok (.dup, 1) := by decide +kernel
theorem dX1_putIn_19 : decode cX1_putIn 19 = .ok (.ldc 111, 2) := by decide +kernel
theorem dX1_putIn_21 : decode cX1_putIn 21 = .ok (.invokespecial 113, 3) := by decide +kernel
theorem dX1_putIn_24 : decode cX1_putIn 24 = .ok (.athrow, 1) := by decide +kernel
theorem dX1_putIn_25 : decode cX1_putIn 25 = .ok (.iload_n 2, 1) := by decide +kernel
theorem dX1_putIn_26 : decode cX1_putIn 26 = .ok (.iconst 1, 1) := by decide +kernel
theorem dX1_putIn_27 : decode cX1_putIn 27 = .ok (.if_icmp .lt 9, 3) := by decide +kernel
theorem dX1_putIn_30 : decode cX1_putIn 30 = .ok (.iload_n 2, 1) := by decide +kernel
theorem dX1_putIn_31 : decode cX1_putIn 31 = .ok (.bipush 100, 2) := by decide +kernel
theorem dX1_putIn_33 : decode cX1_putIn 33 = .ok (.if_icmp .le 13, 3) := by decide +kernel
theorem dX1_putIn_36 : decode cX1_putIn 36 = .ok (.new 109, 3) := by decide +kernel
theorem dX1_putIn_39 : decode cX1_putIn 39 = .ok (.dup, 1) := by decide +kernel
theorem dX1_putIn_40 : decode cX1_putIn 40 = .ok (.ldc 114, 2) := by decide +kernel
theorem dX1_putIn_42 : decode cX1_putIn 42 = .ok (.invokespecial 113, 3) := by decide +kernel
theorem dX1_putIn_45 : decode cX1_putIn 45 = .ok (.athrow, 1) := by decide +kernel
theorem dX1_putIn_46 : decode cX1_putIn 46 = .ok (.aload_n 0, 1) := by decide +kernel
theorem dX1_putIn_47 : decode cX1_putIn 47 = .ok (.getfield 40, 3) := by decide +kernel
theorem dX1_putIn_50 : decode cX1_putIn 50 = .ok (.iload_n 2, 1) := by decide +kernel
theorem dX1_putIn_51 : decode cX1_putIn 51 = .ok (.iadd, 1) := by decide +kernel
theorem dX1_putIn_52 : decode cX1_putIn 52 = .ok (.sipush 300, 3) := by decide +kernel
theorem dX1_putIn_55 : decode cX1_putIn 55 = .ok (.if_icmp .le 13, 3) := by decide +kernel
theorem dX1_putIn_58 : decode cX1_putIn 58 = .ok (.new 43, 3) := by decide +kernel
theorem dX1_putIn_61 : decode cX1_putIn 61 = .ok (.dup, 1) := by decide +kernel
theorem dX1_putIn_62 : decode cX1_putIn 62 = .ok (.ldc 116, 2) := by decide +kernel
theorem dX1_putIn_64 : decode cX1_putIn 64 = .ok (.invokespecial 47, 3) := by decide +kernel
theorem dX1_putIn_67 : decode cX1_putIn 67 = .ok (.athrow, 1) := by decide +kernel
theorem dX1_putIn_68 : decode cX1_putIn 68 = .ok (.iconst 0, 1) := by decide +kernel
theorem dX1_putIn_69 : decode cX1_putIn 69 = .ok (.istore_n 3, 1) := by decide +kernel
theorem dX1_putIn_70 : decode cX1_putIn 70 = .ok (.iload_n 3, 1) := by decide +kernel
theorem dX1_putIn_71 : decode cX1_putIn 71 = .ok (.aload_n 0, 1) := by decide +kernel
theorem dX1_putIn_72 : decode cX1_putIn 72 = .ok (.getfield 36, 3) := by decide +kernel
theorem dX1_putIn_75 : decode cX1_putIn 75 = .ok (.if_icmp .ge 19, 3) := by decide +kernel
theorem dX1_putIn_78 : decode cX1_putIn 78 = .ok (.aload_n 0, 1) := by decide +kernel
theorem dX1_putIn_79 : decode cX1_putIn 79 = .ok (.iload_n 3, 1) := by decide +kernel
theorem dX1_putIn_80 : decode cX1_putIn 80 = .ok (.invokevirtual 64, 3) := by decide +kernel
theorem dX1_putIn_83 : decode cX1_putIn 83 = .ok (.iload_n 1, 1) := by decide +kernel
theorem dX1_putIn_84 : decode cX1_putIn 84 = .ok (.iload_n 2, 1) := by decide +kernel
theorem dX1_putIn_85 : decode cX1_putIn 85 = .ok (.invokevirtual 118, 3) := by decide +kernel
theorem dX1_putIn_88 : decode cX1_putIn 88 = .ok (.iinc 3 1, 3) := by decide +kernel
theorem dX1_putIn_91 : decode cX1_putIn 91 = .ok (.goto (-21), 3) := by decide +kernel
theorem dX1_putIn_94 : decode cX1_putIn 94 = .ok (.aload_n 0, 1) := by decide +kernel
theorem dX1_putIn_95 : decode cX1_putIn 95 = .ok (.dup, 1) := by decide +kernel
theorem dX1_putIn_96 : decode cX1_putIn 96 = .ok (.getfield 40, 3) := by decide +kernel
theorem dX1_putIn_99 : decode cX1_putIn 99 = .ok (.iload_n 2, 1) := by decide +kernel
theorem dX1_putIn_100 : decode cX1_putIn 100 = .ok (.iadd, 1) := by decide +kernel
theorem dX1_putIn_101 : decode cX1_putIn 101 = .ok (.putfield 40, 3) := by decide +kernel
theorem dX1_putIn_104 : decode cX1_putIn 104 = .ok (.aload_n 0, 1) := by decide +kernel
theorem dX1_putIn_105 : decode cX1_putIn 105 = .ok (.getfield 40, 3) := by decide +kernel
theorem dX1_putIn_108 : decode cX1_putIn 108 = .ok (.ireturn, 1) := by decide +kernel
theorem dX1_takeOut_0 : decode cX1_takeOut 0 = .ok (.aload_n 0, 1) := by decide +kernel
theorem dX1_takeOut_1 : decode cX1_takeOut 1 = .ok (.iload_n 1, 1) := by decide +kernel
theorem dX1_takeOut_2 : decode cX1_takeOut 2 = .ok (.invokevirtual 121, 3) := by decide +kernel
theorem dX1_takeOut_5 : decode cX1_takeOut 5 = .ok (.aload_n 0, 1) := by decide +kernel
theorem dX1_takeOut_6 : decode cX1_takeOut 6 = .ok (.getfield 40, 3) := by decide +kernel
theorem dX1_takeOut_9 : decode cX1_takeOut 9 = .ok (.iconst 1, 1) := by decide +kernel
theorem dX1_takeOut_10 : decode cX1_takeOut 10 = .ok (.if_icmp .gt 13, 3) := by decide +kernel
theorem dX1_takeOut_13 : decode cX1_takeOut 13 = .ok (.new 43, 3) := by decide +kernel
theorem dX1_takeOut_16 : decode cX1_takeOut 16 = .ok (.dup, 1) := by decide +kernel
theorem dX1_takeOut_17 : decode cX1_takeOut 17 = .ok (.ldc 124, 2) := by decide +kernel
theorem dX1_takeOut_19 : decode cX1_takeOut 19 = .ok (.invokespecial 47, 3) := by decide +kernel
theorem dX1_takeOut_22 : decode cX1_takeOut 22 = .ok (.athrow, 1) := by decide +kernel
theorem dX1_takeOut_23 : decode cX1_takeOut 23 = .ok (.aload_n 0, 1) := by decide +kernel
theorem dX1_takeOut_24 : decode cX1_takeOut 24 = .ok (.iload_n 1, 1) := by decide +kernel
theorem dX1_takeOut_25 : decode cX1_takeOut 25 = .ok (.invokevirtual 126, 3) := by decide +kernel
theorem dX1_takeOut_28 : decode cX1_takeOut 28 = .ok (.istore_n 2, 1) := by decide +kernel
theorem dX1_takeOut_29 : decode cX1_takeOut 29 = .ok (.iconst 0, 1) := by decide +kernel
theorem dX1_takeOut_30 : decode cX1_takeOut 30 = .ok (.istore_n 3, 1) := by decide +kernel
theorem dX1_takeOut_31 : decode cX1_takeOut 31 = .ok (.iload_n 3, 1) := by decide +kernel
theorem dX1_takeOut_32 : decode cX1_takeOut 32 = .ok (.aload_n 0, 1) := by decide +kernel
theorem dX1_takeOut_33 : decode cX1_takeOut 33 = .ok (.getfield 36, 3) := by decide +kernel
theorem dX1_takeOut_36 : decode cX1_takeOut 36 = .ok (.if_icmp .ge 35, 3) := by decide +kernel
theorem dX1_takeOut_39 : decode cX1_takeOut 39 = .ok (.aload_n 0, 1) := by decide +kernel
theorem dX1_takeOut_40 : decode cX1_takeOut 40 = .ok (.iload_n 3, 1) := by decide +kernel
theorem dX1_takeOut_41 : decode cX1_takeOut 41 = .ok (.invokevirtual 64, 3) := by decide +kernel
theorem dX1_takeOut_44 : decode cX1_takeOut 44 = .ok (.astore 4, 2) := by decide +kernel
theorem dX1_takeOut_46 : decode cX1_takeOut 46 = .ok (.aload_n 0, 1) := by decide +kernel
theorem dX1_takeOut_47 : decode cX1_takeOut 47 = .ok (.getfield 30, 3) := by decide +kernel
theorem dX1_takeOut_50 : decode cX1_takeOut 50 = .ok (.aload 4, 2) := by decide +kernel
theorem dX1_takeOut_52 : decode cX1_takeOut 52 = .ok (.iload_n 1, 1) := by decide +kernel
theorem dX1_takeOut_53 : decode cX1_takeOut 53 = .ok (.invokevirtual 129, 3) := by decide +kernel
theorem dX1_takeOut_56 : decode cX1_takeOut 56 = .ok (.aload 4, 2) := by decide +kernel
theorem dX1_takeOut_58 : decode cX1_takeOut 58 = .ok (.aload_n 0, 1) := by decide +kernel
theorem dX1_takeOut_59 : decode cX1_takeOut 59 = .ok (.getfield 30, 3) := by decide +kernel
theorem dX1_takeOut_62 : decode cX1_takeOut 62 = .ok (.invokevirtual 78, 3) := by decide +kernel
theorem dX1_takeOut_65 : decode cX1_takeOut 65 = .ok (.iinc 3 1, 3) := by decide +kernel
theorem dX1_takeOut_68 : decode cX1_takeOut 68 = .ok (.goto (-37), 3) := by decide +kernel
theorem dX1_takeOut_71 : decode cX1_takeOut 71 = .ok (.aload_n 0, 1) := by decide +kernel
theorem dX1_takeOut_72 : decode cX1_takeOut 72 = .ok (.dup, 1) := by decide +kernel
theorem dX1_takeOut_73 : decode cX1_takeOut 73 = .ok (.getfield 40, 3) := by decide +kernel
theorem dX1_takeOut_76 : decode cX1_takeOut 76 = .ok (.iconst 1, 1) := by decide +kernel
theorem dX1_takeOut_77 : decode cX1_takeOut 77 = .ok (.isub, 1) := by decide +kernel
theorem dX1_takeOut_78 : decode cX1_takeOut 78 = .ok (.putfield 40, 3) := by decide +kernel
theorem dX1_takeOut_81 : decode cX1_takeOut 81 = .ok (.iload_n 2, 1) := by decide +kernel
theorem dX1_takeOut_82 : decode cX1_takeOut 82 = .ok (.ireturn, 1) := by decide +kernel
theorem dX1_bookPages_0 : decode cX1_bookPages 0 = .ok (.aload_n 0, 1) := by decide +kernel
theorem dX1_bookPages_1 : decode cX1_bookPages 1 = .ok (.getfield 40, 3) := by decide +kernel
theorem dX1_bookPages_4 : decode cX1_bookPages 4 = .ok (.ireturn, 1) := by decide +kernel
theorem dX1_headings_0 : decode cX1_headings 0 = .ok (.aload_n 0, 1) := by decide +kernel
theorem dX1_headings_1 : decode cX1_headings 1 = .ok (.getfield 36, 3) := by decide +kernel
theorem dX1_headings_4 : decode cX1_headings 4 = .ok (.ireturn, 1) := by decide +kernel
theorem dX1_spansOf_0 : decode cX1_spansOf 0 = .ok (.aload_n 0, 1) := by decide +kernel
theorem dX1_spansOf_1 : decode cX1_spansOf 1 = .ok (.iload_n 1, 1) := by decide +kernel
theorem dX1_spansOf_2 : decode cX1_spansOf 2 = .ok (.invokevirtual 50, 3) := by decide +kernel
theorem dX1_spansOf_5 : decode cX1_spansOf 5 = .ok (.aload_n 0, 1) := by decide +kernel
theorem dX1_spansOf_6 : decode cX1_spansOf 6 = .ok (.iload_n 1, 1) := by decide +kernel
theorem dX1_spansOf_7 : decode cX1_spansOf 7 = .ok (.invokevirtual 64, 3) := by decide +kernel
theorem dX1_spansOf_10 : decode cX1_spansOf 10 = .ok (.invokevirtual 82, 3) := by decide +kernel
theorem dX1_spansOf_13 : decode cX1_spansOf 13 = .ok (.ireturn, 1) := by decide +kernel
theorem dX1_startOf_0 : decode cX1_startOf 0 = .ok (.aload_n 0, 1) := by decide +kernel
theorem dX1_startOf_1 : decode cX1_startOf 1 = .ok (.iload_n 1, 1) := by decide +kernel
theorem dX1_startOf_2 : decode cX1_startOf 2 = .ok (.invokevirtual 50, 3) := by decide +kernel
theorem dX1_startOf_5 : decode cX1_startOf 5 = .ok (.aload_n 0, 1) := by decide +kernel
theorem dX1_startOf_6 : decode cX1_startOf 6 = .ok (.iload_n 1, 1) := by decide +kernel
theorem dX1_startOf_7 : decode cX1_startOf 7 = .ok (.iload_n 2, 1) := by decide +kernel
theorem dX1_startOf_8 : decode cX1_startOf 8 = .ok (.invokevirtual 133, 3) := by decide +kernel
theorem dX1_startOf_11 : decode cX1_startOf 11 = .ok (.aload_n 0, 1) := by decide +kernel
theorem dX1_startOf_12 : decode cX1_startOf 12 = .ok (.iload_n 1, 1) := by decide +kernel
theorem dX1_startOf_13 : decode cX1_startOf 13 = .ok (.invokevirtual 64, 3) := by decide +kernel
theorem dX1_startOf_16 : decode cX1_startOf 16 = .ok (.iload_n 2, 1) := by decide +kernel
theorem dX1_startOf_17 : decode cX1_startOf 17 = .ok (.invokevirtual 136, 3) := by decide +kernel
theorem dX1_startOf_20 : decode cX1_startOf 20 = .ok (.ireturn, 1) := by decide +kernel
theorem dX1_endOf_0 : decode cX1_endOf 0 = .ok (.aload_n 0, 1) := by decide +kernel
theorem dX1_endOf_1 : decode cX1_endOf 1 = .ok (.iload_n 1, 1) := by decide +kernel
theorem dX1_endOf_2 : decode cX1_endOf 2 = .ok (.invokevirtual 50, 3) := by decide +kernel
theorem dX1_endOf_5 : decode cX1_endOf 5 = .ok (.aload_n 0, 1) := by decide +kernel
theorem dX1_endOf_6 : decode cX1_endOf 6 = .ok (.iload_n 1, 1) := by decide +kernel
theorem dX1_endOf_7 : decode cX1_endOf 7 = .ok (.iload_n 2, 1) := by decide +kernel
theorem dX1_endOf_8 : decode cX1_endOf 8 = .ok (.invokevirtual 133, 3) := by decide +kernel
theorem dX1_endOf_11 : decode cX1_endOf 11 = .ok (.aload_n 0, 1) := by decide +kernel
theorem dX1_endOf_12 : decode cX1_endOf 12 = .ok (.iload_n 1, 1) := by decide +kernel
theorem dX1_endOf_13 : decode cX1_endOf 13 = .ok (.invokevirtual 64, 3) := by decide +kernel
theorem dX1_endOf_16 : decode cX1_endOf 16 = .ok (.iload_n 2, 1) := by decide +kernel
theorem dX1_endOf_17 : decode cX1_endOf 17 = .ok (.invokevirtual 139, 3) := by decide +kernel
theorem dX1_endOf_20 : decode cX1_endOf 20 = .ok (.ireturn, 1) := by decide +kernel
theorem dX1_pagesOf_0 : decode cX1_pagesOf 0 = .ok (.aload_n 0, 1) := by decide +kernel
theorem dX1_pagesOf_1 : decode cX1_pagesOf 1 = .ok (.iload_n 1, 1) := by decide +kernel
theorem dX1_pagesOf_2 : decode cX1_pagesOf 2 = .ok (.invokevirtual 50, 3) := by decide +kernel
theorem dX1_pagesOf_5 : decode cX1_pagesOf 5 = .ok (.aload_n 0, 1) := by decide +kernel
theorem dX1_pagesOf_6 : decode cX1_pagesOf 6 = .ok (.iload_n 1, 1) := by decide +kernel
theorem dX1_pagesOf_7 : decode cX1_pagesOf 7 = .ok (.invokevirtual 64, 3) := by decide +kernel
theorem dX1_pagesOf_10 : decode cX1_pagesOf 10 = .ok (.invokevirtual 90, 3) := by decide +kernel
theorem dX1_pagesOf_13 : decode cX1_pagesOf 13 = .ok (.ireturn, 1) := by decide +kernel
theorem dX1_seeOf_0 : decode cX1_seeOf 0 = .ok (.aload_n 0, 1) := by decide +kernel
theorem dX1_seeOf_1 : decode cX1_seeOf 1 = .ok (.iload_n 1, 1) := by decide +kernel
theorem dX1_seeOf_2 : decode cX1_seeOf 2 = .ok (.invokevirtual 50, 3) := by decide +kernel
theorem dX1_seeOf_5 : decode cX1_seeOf 5 = .ok (.aload_n 0, 1) := by decide +kernel
theorem dX1_seeOf_6 : decode cX1_seeOf 6 = .ok (.iload_n 1, 1) := by decide +kernel
theorem dX1_seeOf_7 : decode cX1_seeOf 7 = .ok (.invokevirtual 58, 3) := by decide +kernel
theorem dX1_seeOf_10 : decode cX1_seeOf 10 = .ok (.ireturn, 1) := by decide +kernel
theorem dX1_seeAlsosOf_0 : decode cX1_seeAlsosOf 0 = .ok (.aload_n 0, 1) := by decide +kernel
theorem dX1_seeAlsosOf_1 : decode cX1_seeAlsosOf 1 = .ok (.iload_n 1, 1) := by decide +kernel
theorem dX1_seeAlsosOf_2 : decode cX1_seeAlsosOf 2 = .ok (.invokevirtual 50, 3) := by decide +kernel
theorem dX1_seeAlsosOf_5 : decode cX1_seeAlsosOf 5 = .ok (.aload_n 0, 1) := by decide +kernel
theorem dX1_seeAlsosOf_6 : decode cX1_seeAlsosOf 6 = .ok (.iload_n 1, 1) := by decide +kernel
theorem dX1_seeAlsosOf_7 : decode cX1_seeAlsosOf 7 = .ok (.invokevirtual 142, 3) := by decide +kernel
theorem dX1_seeAlsosOf_10 : decode cX1_seeAlsosOf 10 = .ok (.ireturn, 1) := by decide +kernel
theorem dX1_isOn_0 : decode cX1_isOn 0 = .ok (.aload_n 0, 1) := by decide +kernel
theorem dX1_isOn_1 : decode cX1_isOn 1 = .ok (.iload_n 1, 1) := by decide +kernel
theorem dX1_isOn_2 : decode cX1_isOn 2 = .ok (.invokevirtual 50, 3) := by decide +kernel
theorem dX1_isOn_5 : decode cX1_isOn 5 = .ok (.aload_n 0, 1) := by decide +kernel
theorem dX1_isOn_6 : decode cX1_isOn 6 = .ok (.iload_n 2, 1) := by decide +kernel
theorem dX1_isOn_7 : decode cX1_isOn 7 = .ok (.invokevirtual 121, 3) := by decide +kernel
theorem dX1_isOn_10 : decode cX1_isOn 10 = .ok (.aload_n 0, 1) := by decide +kernel
theorem dX1_isOn_11 : decode cX1_isOn 11 = .ok (.iload_n 1, 1) := by decide +kernel
theorem dX1_isOn_12 : decode cX1_isOn 12 = .ok (.invokevirtual 64, 3) := by decide +kernel
theorem dX1_isOn_15 : decode cX1_isOn 15 = .ok (.iload_n 2, 1) := by decide +kernel
theorem dX1_isOn_16 : decode cX1_isOn 16 = .ok (.invokevirtual 145, 3) := by decide +kernel
theorem dX1_isOn_19 : decode cX1_isOn 19 = .ok (.ireturn, 1) := by decide +kernel
theorem dX1_headingsOn_0 : decode cX1_headingsOn 0 = .ok (.aload_n 0, 1) := by decide +kernel
theorem dX1_headingsOn_1 : decode cX1_headingsOn 1 = .ok (.iload_n 1, 1) := by decide +kernel
theorem dX1_headingsOn_2 : decode cX1_headingsOn 2 = .ok (.invokevirtual 121, 3) := by decide +kernel
theorem dX1_headingsOn_5 : decode cX1_headingsOn 5 = .ok (.aload_n 0, 1) := by decide +kernel
theorem dX1_headingsOn_6 : decode cX1_headingsOn 6 = .ok (.iload_n 1, 1) := by decide +kernel
theorem dX1_headingsOn_7 : decode cX1_headingsOn 7 = .ok (.invokevirtual 126, 3) := by decide +kernel
theorem dX1_headingsOn_10 : decode cX1_headingsOn 10 = .ok (.ireturn, 1) := by decide +kernel
theorem dX1_barePages_0 : decode cX1_barePages 0 = .ok (.aload_n 0, 1) := by decide +kernel
theorem dX1_barePages_1 : decode cX1_barePages 1 = .ok (.invokevirtual 149, 3) := by decide +kernel
theorem dX1_barePages_4 : decode cX1_barePages 4 = .ok (.iconst 0, 1) := by decide +kernel
theorem dX1_barePages_5 : decode cX1_barePages 5 = .ok (.istore_n 1, 1) := by decide +kernel
theorem dX1_barePages_6 : decode cX1_barePages 6 = .ok (.iconst 1, 1) := by decide +kernel
theorem dX1_barePages_7 : decode cX1_barePages 7 = .ok (.istore_n 2, 1) := by decide +kernel
theorem dX1_barePages_8 : decode cX1_barePages 8 = .ok (.iload_n 2, 1) := by decide +kernel
theorem dX1_barePages_9 : decode cX1_barePages 9 = .ok (.aload_n 0, 1) := by decide +kernel
theorem dX1_barePages_10 : decode cX1_barePages 10 = .ok (.getfield 40, 3) := by decide +kernel
theorem dX1_barePages_13 : decode cX1_barePages 13 = .ok (.if_icmp .gt 21, 3) := by decide +kernel
theorem dX1_barePages_16 : decode cX1_barePages 16 = .ok (.aload_n 0, 1) := by decide +kernel
theorem dX1_barePages_17 : decode cX1_barePages 17 = .ok (.getfield 23, 3) := by decide +kernel
theorem dX1_barePages_20 : decode cX1_barePages 20 = .ok (.iload_n 2, 1) := by decide +kernel
theorem dX1_barePages_21 : decode cX1_barePages 21 = .ok (.iaload, 1) := by decide +kernel
theorem dX1_barePages_22 : decode cX1_barePages 22 = .ok (.ifCond .ne 6, 3) := by decide +kernel
theorem dX1_barePages_25 : decode cX1_barePages 25 = .ok (.iinc 1 1, 3) := by decide +kernel
theorem dX1_barePages_28 : decode cX1_barePages 28 = .ok (.iinc 2 1, 3) := by decide +kernel
theorem dX1_barePages_31 : decode cX1_barePages 31 = .ok (.goto (-23), 3) := by decide +kernel
theorem dX1_barePages_34 : decode cX1_barePages 34 = .ok (.iload_n 1, 1) := by decide +kernel
theorem dX1_barePages_35 : decode cX1_barePages 35 = .ok (.ireturn, 1) := by decide +kernel
theorem dX1_fullestPage_0 : decode cX1_fullestPage 0 = .ok (.aload_n 0, 1) := by decide +kernel
theorem dX1_fullestPage_1 : decode cX1_fullestPage 1 = .ok (.invokevirtual 149, 3) := by decide +kernel
theorem dX1_fullestPage_4 : decode cX1_fullestPage 4 = .ok (.iconst 1, 1) := by decide +kernel
theorem dX1_fullestPage_5 : decode cX1_fullestPage 5 = .ok (.istore_n 1, 1) := by decide +kernel
theorem dX1_fullestPage_6 : decode cX1_fullestPage 6 = .ok (.iconst 2, 1) := by decide +kernel
theorem dX1_fullestPage_7 : decode cX1_fullestPage 7 = .ok (.istore_n 2, 1) := by decide +kernel
theorem dX1_fullestPage_8 : decode cX1_fullestPage 8 = .ok (.iload_n 2, 1) := by decide +kernel
theorem dX1_fullestPage_9 : decode cX1_fullestPage 9 = .ok (.aload_n 0, 1) := by decide +kernel
theorem dX1_fullestPage_10 : decode cX1_fullestPage 10 = .ok (.getfield 40, 3) := by decide +kernel
theorem dX1_fullestPage_13 : decode cX1_fullestPage 13 = .ok (.if_icmp .gt 26, 3) := by decide +kernel
theorem dX1_fullestPage_16 : decode cX1_fullestPage 16 = .ok (.aload_n 0, 1) := by decide +kernel
theorem dX1_fullestPage_17 : decode cX1_fullestPage 17 = .ok (.getfield 23, 3) := by decide +kernel
theorem dX1_fullestPage_20 : decode cX1_fullestPage 20 = .ok (.iload_n 2, 1) := by decide +kernel
theorem dX1_fullestPage_21 : decode cX1_fullestPage 21 = .ok (.iaload, 1) := by decide +kernel
theorem dX1_fullestPage_22 : decode cX1_fullestPage 22 = .ok (.aload_n 0, 1) := by decide +kernel
theorem dX1_fullestPage_23 : decode cX1_fullestPage 23 = .ok (.getfield 23, 3) := by decide +kernel
theorem dX1_fullestPage_26 : decode cX1_fullestPage 26 = .ok (.iload_n 1, 1) := by decide +kernel
theorem dX1_fullestPage_27 : decode cX1_fullestPage 27 = .ok (.iaload, 1) := by decide +kernel
theorem dX1_fullestPage_28 : decode cX1_fullestPage 28 = .ok (.if_icmp .le 5, 3) := by decide +kernel
theorem dX1_fullestPage_31 : decode cX1_fullestPage 31 = .ok (.iload_n 2, 1) := by decide +kernel
theorem dX1_fullestPage_32 : decode cX1_fullestPage 32 = .ok (.istore_n 1, 1) := by decide +kernel
theorem dX1_fullestPage_33 : decode cX1_fullestPage 33 = .ok (.iinc 2 1, 3) := by decide +kernel
theorem dX1_fullestPage_36 : decode cX1_fullestPage 36 = .ok (.goto (-28), 3) := by decide +kernel
theorem dX1_fullestPage_39 : decode cX1_fullestPage 39 = .ok (.iload_n 1, 1) := by decide +kernel
theorem dX1_fullestPage_40 : decode cX1_fullestPage 40 = .ok (.ireturn, 1) := by decide +kernel
theorem dX1_leadsTo_0 : decode cX1_leadsTo 0 = .ok (.aload_n 0, 1) := by decide +kernel
theorem dX1_leadsTo_1 : decode cX1_leadsTo 1 = .ok (.iload_n 1, 1) := by decide +kernel
theorem dX1_leadsTo_2 : decode cX1_leadsTo 2 = .ok (.invokevirtual 50, 3) := by decide +kernel
theorem dX1_leadsTo_5 : decode cX1_leadsTo 5 = .ok (.aload_n 0, 1) := by decide +kernel
theorem dX1_leadsTo_6 : decode cX1_leadsTo 6 = .ok (.iload_n 1, 1) := by decide +kernel
theorem dX1_leadsTo_7 : decode cX1_leadsTo 7 = .ok (.invokevirtual 152, 3) := by decide +kernel
theorem dX1_leadsTo_10 : decode cX1_leadsTo 10 = .ok (.ireturn, 1) := by decide +kernel
theorem dX1_vainSees_0 : decode cX1_vainSees 0 = .ok (.iconst 0, 1) := by decide +kernel
theorem dX1_vainSees_1 : decode cX1_vainSees 1 = .ok (.istore_n 1, 1) := by decide +kernel
theorem dX1_vainSees_2 : decode cX1_vainSees 2 = .ok (.iconst 0, 1) := by decide +kernel
theorem dX1_vainSees_3 : decode cX1_vainSees 3 = .ok (.istore_n 2, 1) := by decide +kernel
theorem dX1_vainSees_4 : decode cX1_vainSees 4 = .ok (.iload_n 2, 1) := by decide +kernel
theorem dX1_vainSees_5 : decode cX1_vainSees 5 = .ok (.aload_n 0, 1) := by decide +kernel
theorem dX1_vainSees_6 : decode cX1_vainSees 6 = .ok (.getfield 36, 3) := by decide +kernel
theorem dX1_vainSees_9 : decode cX1_vainSees 9 = .ok (.if_icmp .ge 33, 3) := by decide +kernel
theorem dX1_vainSees_12 : decode cX1_vainSees 12 = .ok (.aload_n 0, 1) := by decide +kernel
theorem dX1_vainSees_13 : decode cX1_vainSees 13 = .ok (.iload_n 2, 1) := by decide +kernel
theorem dX1_vainSees_14 : decode cX1_vainSees 14 = .ok (.invokevirtual 58, 3) := by decide +kernel
theorem dX1_vainSees_17 : decode cX1_vainSees 17 = .ok (.iconst (-1), 1) := by decide +kernel
theorem dX1_vainSees_18 : decode cX1_vainSees 18 = .ok (.if_icmp .eq 18, 3) := by decide +kernel
theorem dX1_vainSees_21 : decode cX1_vainSees 21 = .ok (.aload_n 0, 1) := by decide +kernel
theorem dX1_vainSees_22 : decode cX1_vainSees 22 = .ok (.aload_n 0, 1) := by decide +kernel
theorem dX1_vainSees_23 : decode cX1_vainSees 23 = .ok (.iload_n 2, 1) := by decide +kernel
theorem dX1_vainSees_24 : decode cX1_vainSees 24 = .ok (.invokevirtual 152, 3) := by decide +kernel
theorem dX1_vainSees_27 : decode cX1_vainSees 27 = .ok (.invokevirtual 155, 3) := by decide +kernel
theorem dX1_vainSees_30 : decode cX1_vainSees 30 = .ok (.ifCond .eq 6, 3) := by decide +kernel
theorem dX1_vainSees_33 : decode cX1_vainSees 33 = .ok (.iinc 1 1, 3) := by decide +kernel
theorem dX1_vainSees_36 : decode cX1_vainSees 36 = .ok (.iinc 2 1, 3) := by decide +kernel
theorem dX1_vainSees_39 : decode cX1_vainSees 39 = .ok (.goto (-35), 3) := by decide +kernel
theorem dX1_vainSees_42 : decode cX1_vainSees 42 = .ok (.iload_n 1, 1) := by decide +kernel
theorem dX1_vainSees_43 : decode cX1_vainSees 43 = .ok (.ireturn, 1) := by decide +kernel
theorem dX1_steps_0 : decode cX1_steps 0 = .ok (.aload_n 0, 1) := by decide +kernel
theorem dX1_steps_1 : decode cX1_steps 1 = .ok (.iload_n 1, 1) := by decide +kernel
theorem dX1_steps_2 : decode cX1_steps 2 = .ok (.invokevirtual 50, 3) := by decide +kernel
theorem dX1_steps_5 : decode cX1_steps 5 = .ok (.aload_n 0, 1) := by decide +kernel
theorem dX1_steps_6 : decode cX1_steps 6 = .ok (.iload_n 2, 1) := by decide +kernel
theorem dX1_steps_7 : decode cX1_steps 7 = .ok (.invokevirtual 50, 3) := by decide +kernel
theorem dX1_steps_10 : decode cX1_steps 10 = .ok (.iload_n 1, 1) := by decide +kernel
theorem dX1_steps_11 : decode cX1_steps 11 = .ok (.invokestatic 99, 3) := by decide +kernel
theorem dX1_steps_14 : decode cX1_steps 14 = .ok (.istore_n 3, 1) := by decide +kernel
theorem dX1_steps_15 : decode cX1_steps 15 = .ok (.iconst 0, 1) := by decide +kernel
theorem dX1_steps_16 : decode cX1_steps 16 = .ok (.istore 4, 2) := by decide +kernel
theorem dX1_steps_18 : decode cX1_steps 18 = .ok (.iload 4, 2) := by decide +kernel
theorem dX1_steps_20 : decode cX1_steps 20 = .ok (.bipush 24, 2) := by decide +kernel
theorem dX1_steps_22 : decode cX1_steps 22 = .ok (.if_icmp .ge 29, 3) := by decide +kernel
theorem dX1_steps_25 : decode cX1_steps 25 = .ok (.iload_n 3, 1) := by decide +kernel
theorem dX1_steps_26 : decode cX1_steps 26 = .ok (.iload_n 2, 1) := by decide +kernel
theorem dX1_steps_27 : decode cX1_steps 27 = .ok (.invokestatic 99, 3) := by decide +kernel
theorem dX1_steps_30 : decode cX1_steps 30 = .ok (.iand, 1) := by decide +kernel
theorem dX1_steps_31 : decode cX1_steps 31 = .ok (.ifCond .eq 6, 3) := by decide +kernel
theorem dX1_steps_34 : decode cX1_steps 34 = .ok (.iload 4, 2) := by decide +kernel
theorem dX1_steps_36 : decode cX1_steps 36 = .ok (.ireturn, 1) := by decide +kernel
theorem dX1_steps_37 : decode cX1_steps 37 = .ok (.iload_n 3, 1) := by decide +kernel
theorem dX1_steps_38 : decode cX1_steps 38 = .ok (.aload_n 0, 1) := by decide +kernel
theorem dX1_steps_39 : decode cX1_steps 39 = .ok (.iload_n 3, 1) := by decide +kernel
theorem dX1_steps_40 : decode cX1_steps 40 = .ok (.invokevirtual 158, 3) := by decide +kernel
theorem dX1_steps_43 : decode cX1_steps 43 = .ok (.ior, 1) := by decide +kernel
theorem dX1_steps_44 : decode cX1_steps 44 = .ok (.istore_n 3, 1) := by decide +kernel
theorem dX1_steps_45 : decode cX1_steps 45 = .ok (.iinc 4 1, 3) := by decide +kernel
theorem dX1_steps_48 : decode cX1_steps 48 = .ok (.goto (-30), 3) := by decide +kernel
theorem dX1_steps_51 : decode cX1_steps 51 = .ok (.iconst (-1), 1) := by decide +kernel
theorem dX1_steps_52 : decode cX1_steps 52 = .ok (.ireturn, 1) := by decide +kernel
theorem dX1_reachOf_0 : decode cX1_reachOf 0 = .ok (.aload_n 0, 1) := by decide +kernel
theorem dX1_reachOf_1 : decode cX1_reachOf 1 = .ok (.iload_n 1, 1) := by decide +kernel
theorem dX1_reachOf_2 : decode cX1_reachOf 2 = .ok (.invokevirtual 50, 3) := by decide +kernel
theorem dX1_reachOf_5 : decode cX1_reachOf 5 = .ok (.aload_n 0, 1) := by decide +kernel
theorem dX1_reachOf_6 : decode cX1_reachOf 6 = .ok (.iload_n 1, 1) := by decide +kernel
theorem dX1_reachOf_7 : decode cX1_reachOf 7 = .ok (.invokevirtual 161, 3) := by decide +kernel
theorem dX1_reachOf_10 : decode cX1_reachOf 10 = .ok (.ireturn, 1) := by decide +kernel
theorem dX1_isInRing_0 : decode cX1_isInRing 0 = .ok (.aload_n 0, 1) := by decide +kernel
theorem dX1_isInRing_1 : decode cX1_isInRing 1 = .ok (.iload_n 1, 1) := by decide +kernel
theorem dX1_isInRing_2 : decode cX1_isInRing 2 = .ok (.invokevirtual 50, 3) := by decide +kernel
theorem dX1_isInRing_5 : decode cX1_isInRing 5 = .ok (.aload_n 0, 1) := by decide +kernel
theorem dX1_isInRing_6 : decode cX1_isInRing 6 = .ok (.iload_n 1, 1) := by decide +kernel
theorem dX1_isInRing_7 : decode cX1_isInRing 7 = .ok (.invokevirtual 164, 3) := by decide +kernel
theorem dX1_isInRing_10 : decode cX1_isInRing 10 = .ok (.ireturn, 1) := by decide +kernel
theorem dX1_unled_0 : decode cX1_unled 0 = .ok (.iconst 1, 1) := by decide +kernel
theorem dX1_unled_1 : decode cX1_unled 1 = .ok (.aload_n 0, 1) := by decide +kernel
theorem dX1_unled_2 : decode cX1_unled 2 = .ok (.getfield 36, 3) := by decide +kernel
theorem dX1_unled_5 : decode cX1_unled 5 = .ok (.ishl, 1) := by decide +kernel
theorem dX1_unled_6 : decode cX1_unled 6 = .ok (.iconst 1, 1) := by decide +kernel
theorem dX1_unled_7 : decode cX1_unled 7 = .ok (.isub, 1) := by decide +kernel
theorem dX1_unled_8 : decode cX1_unled 8 = .ok (.istore_n 1, 1) := by decide +kernel
theorem dX1_unled_9 : decode cX1_unled 9 = .ok (.aload_n 0, 1) := by decide +kernel
theorem dX1_unled_10 : decode cX1_unled 10 = .ok (.getfield 36, 3) := by decide +kernel
theorem dX1_unled_13 : decode cX1_unled 13 = .ok (.aload_n 0, 1) := by decide +kernel
theorem dX1_unled_14 : decode cX1_unled 14 = .ok (.iload_n 1, 1) := by decide +kernel
theorem dX1_unled_15 : decode cX1_unled 15 = .ok (.invokevirtual 158, 3) := by decide +kernel
theorem dX1_unled_18 : decode cX1_unled 18 = .ok (.invokestatic 102, 3) := by decide +kernel
theorem dX1_unled_21 : decode cX1_unled 21 = .ok (.isub, 1) := by decide +kernel
theorem dX1_unled_22 : decode cX1_unled 22 = .ok (.ireturn, 1) := by decide +kernel
theorem dX1_spansWithGap_0 : decode cX1_spansWithGap 0 = .ok (.aload_n 0, 1) := by decide +kernel
theorem dX1_spansWithGap_1 : decode cX1_spansWithGap 1 = .ok (.iload_n 1, 1) := by decide +kernel
theorem dX1_spansWithGap_2 : decode cX1_spansWithGap 2 = .ok (.invokevirtual 50, 3) := by decide +kernel
theorem dX1_spansWithGap_5 : decode cX1_spansWithGap 5 = .ok (.iload_n 2, 1) := by decide +kernel
theorem dX1_spansWithGap_6 : decode cX1_spansWithGap 6 = .ok (.ifCond .lt 9, 3) := by decide +kernel
theorem dX1_spansWithGap_9 : decode cX1_spansWithGap 9 = .ok (.iload_n 2, 1) := by decide +kernel
theorem dX1_spansWithGap_10 : decode cX1_spansWithGap 10 = .ok (.bipush 100, 2) := by decide +kernel
theorem dX1_spansWithGap_12 : decode cX1_spansWithGap 12 = .ok (.if_icmp .le 13, 3) := by decide +kernel
theorem dX1_spansWithGap_15 : decode cX1_spansWithGap 15 = .ok (.new 109, 3) := by decide +kernel
theorem dX1_spansWithGap_18 : decode cX1_spansWithGap 18 = .ok (.dup, 1) := by decide +kernel
theorem dX1_spansWithGap_19 : decode cX1_spansWithGap 19 = .ok (.ldc 167, 2) := by decide +kernel
theorem dX1_spansWithGap_21 : decode cX1_spansWithGap 21 = .ok (.invokespecial 113, 3) := by decide +kernel
theorem dX1_spansWithGap_24 : decode cX1_spansWithGap 24 = .ok (.athrow, 1) := by decide +kernel
theorem dX1_spansWithGap_25 : decode cX1_spansWithGap 25 = .ok (.aload_n 0, 1) := by decide +kernel
theorem dX1_spansWithGap_26 : decode cX1_spansWithGap 26 = .ok (.getfield 30, 3) := by decide +kernel
theorem dX1_spansWithGap_29 : decode cX1_spansWithGap 29 = .ok (.aload_n 0, 1) := by decide +kernel
theorem dX1_spansWithGap_30 : decode cX1_spansWithGap 30 = .ok (.iload_n 1, 1) := by decide +kernel
theorem dX1_spansWithGap_31 : decode cX1_spansWithGap 31 = .ok (.invokevirtual 64, 3) := by decide +kernel
theorem dX1_spansWithGap_34 : decode cX1_spansWithGap 34 = .ok (.iload_n 2, 1) := by decide +kernel
theorem dX1_spansWithGap_35 : decode cX1_spansWithGap 35 = .ok (.invokevirtual 169, 3) := by decide +kernel
theorem dX1_spansWithGap_38 : decode cX1_spansWithGap 38 = .ok (.aload_n 0, 1) := by decide +kernel
theorem dX1_spansWithGap_39 : decode cX1_spansWithGap 39 = .ok (.getfield 30, 3) := by decide +kernel
theorem dX1_spansWithGap_42 : decode cX1_spansWithGap 42 = .ok (.invokevirtual 82, 3) := by decide +kernel
theorem dX1_spansWithGap_45 : decode cX1_spansWithGap 45 = .ok (.ireturn, 1) := by decide +kernel
theorem dX1_commonPages_0 : decode cX1_commonPages 0 = .ok (.aload_n 0, 1) := by decide +kernel
theorem dX1_commonPages_1 : decode cX1_commonPages 1 = .ok (.iload_n 1, 1) := by decide +kernel
theorem dX1_commonPages_2 : decode cX1_commonPages 2 = .ok (.invokevirtual 50, 3) := by decide +kernel
theorem dX1_commonPages_5 : decode cX1_commonPages 5 = .ok (.aload_n 0, 1) := by decide +kernel
theorem dX1_commonPages_6 : decode cX1_commonPages 6 = .ok (.iload_n 2, 1) := by decide +kernel
theorem dX1_commonPages_7 : decode cX1_commonPages 7 = .ok (.invokevirtual 50, 3) := by decide +kernel
theorem dX1_commonPages_10 : decode cX1_commonPages 10 = .ok (.aload_n 0, 1) := by decide +kernel
theorem dX1_commonPages_11 : decode cX1_commonPages 11 = .ok (.iload_n 1, 1) := by decide +kernel
theorem dX1_commonPages_12 : decode cX1_commonPages 12 = .ok (.invokevirtual 64, 3) := by decide +kernel
theorem dX1_commonPages_15 : decode cX1_commonPages 15 = .ok (.aload_n 0, 1) := by decide +kernel
theorem dX1_commonPages_16 : decode cX1_commonPages 16 = .ok (.iload_n 2, 1) := by decide +kernel
theorem dX1_commonPages_17 : decode cX1_commonPages 17 = .ok (.invokevirtual 64, 3) := by decide +kernel
theorem dX1_commonPages_20 : decode cX1_commonPages 20 = .ok (.invokevirtual 172, 3) := by decide +kernel
theorem dX1_commonPages_23 : decode cX1_commonPages 23 = .ok (.ireturn, 1) := by decide +kernel
theorem dX1_nearest_0 : decode cX1_nearest 0 = .ok (.aload_n 0, 1) := by decide +kernel
theorem dX1_nearest_1 : decode cX1_nearest 1 = .ok (.iload_n 1, 1) := by decide +kernel
theorem dX1_nearest_2 : decode cX1_nearest 2 = .ok (.invokevirtual 50, 3) := by decide +kernel
theorem dX1_nearest_5 : decode cX1_nearest 5 = .ok (.aload_n 0, 1) := by decide +kernel
theorem dX1_nearest_6 : decode cX1_nearest 6 = .ok (.iload_n 1, 1) := by decide +kernel
theorem dX1_nearest_7 : decode cX1_nearest 7 = .ok (.invokevirtual 176, 3) := by decide +kernel
theorem dX1_nearest_10 : decode cX1_nearest 10 = .ok (.ireturn, 1) := by decide +kernel
theorem dX1_spansTogether_0 : decode cX1_spansTogether 0 = .ok (.aload_n 0, 1) := by decide +kernel
theorem dX1_spansTogether_1 : decode cX1_spansTogether 1 = .ok (.iload_n 1, 1) := by decide +kernel
theorem dX1_spansTogether_2 : decode cX1_spansTogether 2 = .ok (.invokevirtual 50, 3) := by decide +kernel
theorem dX1_spansTogether_5 : decode cX1_spansTogether 5 = .ok (.aload_n 0, 1) := by decide +kernel
theorem dX1_spansTogether_6 : decode cX1_spansTogether 6 = .ok (.iload_n 2, 1) := by decide +kernel
theorem dX1_spansTogether_7 : decode cX1_spansTogether 7 = .ok (.invokevirtual 50, 3) := by decide +kernel
theorem dX1_spansTogether_10 : decode cX1_spansTogether 10 = .ok (.aload_n 0, 1) := by decide +kernel
theorem dX1_spansTogether_11 : decode cX1_spansTogether 11 = .ok (.getfield 30, 3) := by decide +kernel
theorem dX1_spansTogether_14 : decode cX1_spansTogether 14 = .ok (.aload_n 0, 1) := by decide +kernel
