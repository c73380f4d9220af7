/-! THE BYTES OF law(), block by block -/
abbrev lqSC (cc : ByteArray) (P : Nat) (k : Int) : Prop := decode cc P = .ok (.aload_n 0, 1) ∧ decode cc (P + 1) = .ok (.iload 4, 2) ∧ decode cc (P + 3) = .ok (.iconst k, 1) ∧ decode cc (P + 4) = .ok (.iadd, 1) ∧ decode cc (P + 5) = .ok (.iaload, 1)
abbrev lqHD0 (cc : ByteArray) (P : Nat) (i1 i2 : Nat) : Prop := decode cc P = .ok (.aload_n 1, 1) ∧ decode cc (P + 1) = .ok (.aload_n 3, 1) ∧ decode cc (P + 2) = .ok (.invokestatic i1, 3) ∧ decode cc (P + 5) = .ok (.istore 5, 2) ∧ decode cc (P + 7) = .ok (.aload_n 2, 1) ∧ decode cc (P + 8) = .ok (.invokevirtual i2, 3)
abbrev lqHD1 (cc : ByteArray) (P : Nat) (i1 i2 : Nat) : Prop := decode cc P = .ok (.aload_n 1, 1) ∧ lqSC cc (P + 1) 1 ∧ decode cc (P + 7) = .ok (.aload_n 3, 1) ∧ decode cc (P + 8) = .ok (.invokestatic i1, 3) ∧ decode cc (P + 11) = .ok (.istore 5, 2) ∧ decode cc (P + 13) = .ok (.aload_n 2, 1) ∧ lqSC cc (P + 14) 1 ∧ decode cc (P + 20) = .ok (.invokevirtual i2, 3)
abbrev lqHD2 (cc : ByteArray) (P : Nat) (i1 i2 : Nat) : Prop := decode cc P = .ok (.aload_n 1, 1) ∧ lqSC cc (P + 1) 1 ∧ lqSC cc (P + 7) 2 ∧ decode cc (P + 13) = .ok (.aload_n 3, 1) ∧ decode cc (P + 14) = .ok (.invokestatic i1, 3) ∧ decode cc (P + 17) = .ok (.istore 5, 2) ∧ decode cc (P + 19) = .ok (.aload_n 2, 1) ∧ lqSC cc (P + 20) 1 ∧ lqSC cc (P + 26) 2 ∧ decode cc (P + 32) = .ok (.invokevirtual i2, 3)
abbrev lqHD3 (cc : ByteArray) (P : Nat) (i1 i2 : Nat) : Prop := decode cc P = .ok (.aload_n 1, 1) ∧ lqSC cc (P + 1) 1 ∧ lqSC cc (P + 7) 2 ∧ lqSC cc (P + 13) 3 ∧ decode cc (P + 19) = .ok (.aload_n 3, 1) ∧ decode cc (P + 20) = .ok (.invokestatic i1, 3) ∧ decode cc (P + 23) = .ok (.istore 5, 2) ∧ decode cc (P + 25) = .ok (.aload_n 2, 1) ∧ lqSC cc (P + 26) 1 ∧ lqSC cc (P + 32) 2 ∧ lqSC cc (P + 38) 3 ∧ decode cc (P + 44) = .ok (.invokevirtual i2, 3)
abbrev lqTE (cc : ByteArray) (P : Nat) (Z : Nat) (q o : Int) : Prop := decode cc P = .ok (.istore 6, 2) ∧ decode cc (P + 2) = .ok (.aload_n 2, 1) ∧ decode cc (P + 3) = .ok (.invokevirtual 100, 3) ∧ decode cc (P + 6) = .ok (.iload 5, 2) ∧ decode cc (P + 8) = .ok (.if_icmp .eq 5, 3) ∧ decode cc (P + 13) = .ok (.iload 5, 2) ∧ decode cc (P + 15) = .ok (.ifCond .ne q, 3) ∧ ((P + 15 : Nat) : Int) + q = (Z : Int) ∧ decode cc Z = .ok (.goto o, 3) ∧ (Z : Int) + o = (1767 : Nat)
abbrev lqTI (cc : ByteArray) (P : Nat) : Prop := decode cc (P + 18) = .ok (.aload_n 3, 1) ∧ decode cc (P + 19) = .ok (.iconst 0, 1) ∧ decode cc (P + 20) = .ok (.laload, 1) ∧ decode cc (P + 21) = .ok (.iload 6, 2) ∧ decode cc (P + 23) = .ok (.i2l, 1) ∧ decode cc (P + 24) = .ok (.lcmp, 1) ∧ decode cc (P + 25) = .ok (.ifCond .eq 5, 3)
abbrev lqTB (cc : ByteArray) (P : Nat) : Prop := decode cc (P + 18) = .ok (.aload_n 3, 1) ∧ decode cc (P + 19) = .ok (.iconst 0, 1) ∧ decode cc (P + 20) = .ok (.laload, 1) ∧ decode cc (P + 21) = .ok (.iload 6, 2) ∧ decode cc (P + 23) = .ok (.ifCond .eq 7, 3) ∧ decode cc (P + 26) = .ok (.lconst 1, 1) ∧ decode cc (P + 27) = .ok (.goto 4, 3) ∧ decode cc (P + 30) = .ok (.lconst 0, 1) ∧ decode cc (P + 31) = .ok (.lcmp, 1) ∧ decode cc (P + 32) = .ok (.ifCond .eq 5, 3)
abbrev lqDI (cc : ByteArray) (P : Nat) (i1 i2 : Nat) (o : Int) : Prop := decode cc P = .ok (.aload_n 1, 1) ∧ decode cc (P + 1) = .ok (.invokevirtual i1, 3) ∧ decode cc (P + 4) = .ok (.aload_n 2, 1) ∧ decode cc (P + 5) = .ok (.invokevirtual i2, 3) ∧ decode cc (P + 8) = .ok (.if_icmp .eq o, 3) ∧ ((P + 8 : Nat) : Int) + o = (1767 : Nat)
set_option maxRecDepth 100000 in
theorem hd_0 : lqHD0 cL_law 176 94 99 := ⟨by decide +kernel, by decide +kernel, by decide +kernel, by decide +kernel, by decide +kernel, by decide +kernel⟩
set_option maxRecDepth 100000 in
theorem te_0 : lqTE cL_law 187 217 15 1550 := by decide +kernel
set_option maxRecDepth 100000 in
theorem ti_0 : lqTI cL_law 187 := by decide +kernel
set_option maxRecDepth 100000 in
theorem hd_1 : lqHD3 cL_law 220 103 106 := ⟨by decide +kernel, by decide +kernel, by decide +kernel, by decide +kernel, by decide +kernel, by decide +kernel, by decide +kernel, by decide +kernel, by decide +kernel, by decide +kernel, by decide +kernel, by decide +kernel⟩
set_option maxRecDepth 100000 in
theorem te_1 : lqTE cL_law 267 297 15 1470 := by decide +kernel
set_option maxRecDepth 100000 in
theorem ti_1 : lqTI cL_law 267 := by decide +kernel
set_option maxRecDepth 100000 in
theorem hd_2 : lqHD3 cL_law 300 107 109 := ⟨by decide +kernel, by decide +kernel, by decide +kernel, by decide +kernel, by decide +kernel, by decide +kernel, by decide +kernel, by decide +kernel, by decide +kernel, by decide +kernel, by decide +kernel, by decide +kernel⟩
set_option maxRecDepth 100000 in
theorem te_2 : lqTE cL_law 347 377 15 1390 := by decide +kernel
set_option maxRecDepth 100000 in
theorem ti_2 : lqTI cL_law 347 := by decide +kernel
set_option maxRecDepth 100000 in
theorem hd_3 : lqHD2 cL_law 380 110 113 := ⟨by decide +kernel, by decide +kernel, by decide +kernel, by decide +kernel, by decide +kernel, by decide +kernel, by decide +kernel, by decide +kernel, by decide +kernel, by decide +kernel⟩
set_option maxRecDepth 100000 in
theorem te_3 : lqTE cL_law 415 445 15 1322 := by decide +kernel
set_option maxRecDepth 100000 in
theorem ti_3 : lqTI cL_law 415 := by decide +kernel
set_option maxRecDepth 100000 in
theorem hd_4 : lqHD2 cL_law 448 114 116 := ⟨by decide +kernel, by decide +kernel, by decide +kernel, by decide +kernel, by decide +kernel, by decide +kernel, by decide +kernel, by decide +kernel, by decide +kernel, by decide +kernel⟩
set_option maxRecDepth 100000 in
theorem te_4 : lqTE cL_law 483 513 15 1254 := by decide +kernel
set_option maxRecDepth 100000 in
theorem ti_4 : lqTI cL_law 483 := by decide +kernel
set_option maxRecDepth 100000 in
theorem hd_5 : lqHD2 cL_law 516 117 119 := ⟨by decide +kernel, by decide +kernel, by decide +kernel, by decide +kernel, by decide +kernel, by decide +kernel, by decide +kernel, by decide +kernel, by decide +kernel, by decide +kernel⟩
set_option maxRecDepth 100000 in
theorem te_5 : lqTE cL_law 551 581 15 1186 := by decide +kernel
set_option maxRecDepth 100000 in
theorem ti_5 : lqTI cL_law 551 := by decide +kernel
set_option maxRecDepth 100000 in
theorem hd_6 : lqHD1 cL_law 584 120 123 := ⟨by decide +kernel, by decide +kernel, by decide +kernel, by decide +kernel, by decide +kernel, by decide +kernel, by decide +kernel, by decide +kernel⟩
set_option maxRecDepth 100000 in
theorem te_6 : lqTE cL_law 607 637 15 1130 := by decide +kernel
set_option maxRecDepth 100000 in
theorem ti_6 : lqTI cL_law 607 := by decide +kernel
set_option maxRecDepth 100000 in
theorem di_7 : lqDI cL_law 640 124 127 1119 := by decide +kernel
set_option maxRecDepth 100000 in
theorem di_8 : lqDI cL_law 653 128 131 1106 := by decide +kernel
set_option maxRecDepth 100000 in
theorem hd_9 : lqHD1 cL_law 666 132 134 := ⟨by decide +kernel, by decide +kernel, by decide +kernel, by decide +kernel, by decide +kernel, by decide +kernel, by decide +kernel, by decide +kernel⟩
set_option maxRecDepth 100000 in
theorem te_9 : lqTE cL_law 689 719 15 1048 := by decide +kernel
set_option maxRecDepth 100000 in
theorem ti_9 : lqTI cL_law 689 := by decide +kernel
set_option maxRecDepth 100000 in
theorem hd_10 : lqHD2 cL_law 722 135 137 := ⟨by decide +kernel, by decide +kernel, by decide +kernel, by decide +kernel, by decide +kernel, by decide +kernel, by decide +kernel, by decide +kernel, by decide +kernel, by decide +kernel⟩
set_option maxRecDepth 100000 in
theorem te_10 : lqTE cL_law 757 787 15 980 := by decide +kernel
set_option maxRecDepth 100000 in
theorem ti_10 : lqTI cL_law 757 := by decide +kernel
set_option maxRecDepth 100000 in
theorem hd_11 : lqHD2 cL_law 790 138 140 := ⟨by decide +kernel, by decide +kernel, by decide +kernel, by decide +kernel, by decide +kernel, by decide +kernel, by decide +kernel, by decide +kernel, by decide +kernel, by decide +kernel⟩
set_option maxRecDepth 100000 in
theorem te_11 : lqTE cL_law 825 855 15 912 := by decide +kernel
set_option maxRecDepth 100000 in
theorem ti_11 : lqTI cL_law 825 := by decide +kernel
set_option maxRecDepth 100000 in
theorem hd_12 : lqHD1 cL_law 858 141 143 := ⟨by decide +kernel, by decide +kernel, by decide +kernel, by decide +kernel, by decide +kernel, by decide +kernel, by decide +kernel, by decide +kernel⟩
set_option maxRecDepth 100000 in
theorem te_12 : lqTE cL_law 881 911 15 856 := by decide +kernel
set_option maxRecDepth 100000 in
theorem ti_12 : lqTI cL_law 881 := by decide +kernel
set_option maxRecDepth 100000 in
theorem hd_13 : lqHD1 cL_law 914 144 146 := ⟨by decide +kernel, by decide +kernel, by decide +kernel, by decide +kernel, by decide +kernel, by decide +kernel, by decide +kernel, by decide +kernel⟩
set_option maxRecDepth 100000 in
theorem te_13 : lqTE cL_law 937 967 15 800 := by decide +kernel
set_option maxRecDepth 100000 in
theorem ti_13 : lqTI cL_law 937 := by decide +kernel
set_option maxRecDepth 100000 in
theorem hd_14 : lqHD1 cL_law 970 147 149 := ⟨by decide +kernel, by decide +kernel, by decide +kernel, by decide +kernel, by decide +kernel, by decide +kernel, by decide +kernel, by decide +kernel⟩
set_option maxRecDepth 100000 in
theorem te_14 : lqTE cL_law 993 1023 15 744 := by decide +kernel
set_option maxRecDepth 100000 in
theorem ti_14 : lqTI cL_law 993 := by decide +kernel
set_option maxRecDepth 100000 in
theorem hd_15 : lqHD2 cL_law 1026 150 152 := ⟨by decide +kernel, by decide +kernel, by decide +kernel, by decide +kernel, by decide +kernel, by decide +kernel, by decide +kernel, by decide +kernel, by decide +kernel, by decide +kernel⟩
set_option maxRecDepth 100000 in
theorem te_15 : lqTE cL_law 1061 1098 22 669 := by decide +kernel
set_option maxRecDepth 100000 in
theorem tb_15 : lqTB cL_law 1061 := by decide +kernel
set_option maxRecDepth 100000 in
theorem hd_16 : lqHD1 cL_law 1101 153 155 := ⟨by decide +kernel, by decide +kernel, by decide +kernel, by decide +kernel, by decide +kernel, by decide +kernel, by decide +kernel, by decide +kernel⟩
set_option maxRecDepth 100000 in
theorem te_16 : lqTE cL_law 1124 1154 15 613 := by decide +kernel
set_option maxRecDepth 100000 in
theorem ti_16 : lqTI cL_law 1124 := by decide +kernel
set_option maxRecDepth 100000 in
theorem di_17 : lqDI cL_law 1157 156 159 602 := by decide +kernel
set_option maxRecDepth 100000 in
theorem di_18 : lqDI cL_law 1170 160 163 589 := by decide +kernel
set_option maxRecDepth 100000 in
theorem hd_19 : lqHD1 cL_law 1183 164 166 := ⟨by decide +kernel, by decide +kernel, by decide +kernel, by decide +kernel, by decide +kernel, by decide +kernel, by decide +kernel, by decide +kernel⟩
set_option maxRecDepth 100000 in
theorem te_19 : lqTE cL_law 1206 1236 15 531 := by decide +kernel
set_option maxRecDepth 100000 in
theorem ti_19 : lqTI cL_law 1206 := by decide +kernel
set_option maxRecDepth 100000 in
theorem di_20 : lqDI cL_law 1239 167 170 520 := by decide +kernel
set_option maxRecDepth 100000 in
theorem hd_21 : lqHD2 cL_law 1252 171 173 := ⟨by decide +kernel, by decide +kernel, by decide +kernel, by decide +kernel, by decide +kernel, by decide +kernel, by decide +kernel, by decide +kernel, by decide +kernel, by decide +kernel⟩
set_option maxRecDepth 100000 in
theorem te_21 : lqTE cL_law 1287 1317 15 450 := by decide +kernel
set_option maxRecDepth 100000 in
theorem ti_21 : lqTI cL_law 1287 := by decide +kernel
set_option maxRecDepth 100000 in
theorem hd_22 : lqHD1 cL_law 1320 174 176 := ⟨by decide +kernel, by decide +kernel, by decide +kernel, by decide +kernel, by decide +kernel, by decide +kernel, by decide +kernel, by decide +kernel⟩
set_option maxRecDepth 100000 in
theorem te_22 : lqTE cL_law 1343 1373 15 394 := by decide +kernel
set_option maxRecDepth 100000 in
theorem ti_22 : lqTI cL_law 1343 := by decide +kernel
set_option maxRecDepth 100000 in
theorem hd_23 : lqHD1 cL_law 1376 177 179 := ⟨by decide +kernel, by decide +kernel, by decide +kernel, by decide +kernel, by decide +kernel, by decide +kernel, by decide +kernel, by decide +kernel⟩
set_option maxRecDepth 100000 in
theorem te_23 : lqTE cL_law 1399 1436 22 331 := by decide +kernel
set_option maxRecDepth 100000 in
theorem tb_23 : lqTB cL_law 1399 := by decide +kernel
set_option maxRecDepth 100000 in
theorem di_24 : lqDI cL_law 1439 180 183 320 := by decide +kernel
set_option maxRecDepth 100000 in
theorem hd_25 : lqHD2 cL_law 1452 184 186 := ⟨by decide +kernel, by decide +kernel, by decide +kernel, by decide +kernel, by decide +kernel, by decide +kernel, by decide +kernel, by decide +kernel, by decide +kernel, by decide +kernel⟩
set_option maxRecDepth 100000 in
theorem te_25 : lqTE cL_law 1487 1517 15 250 := by decide +kernel
set_option maxRecDepth 100000 in
theorem ti_25 : lqTI cL_law 1487 := by decide +kernel
set_option maxRecDepth 100000 in
theorem hd_26 : lqHD2 cL_law 1520 187 189 := ⟨by decide +kernel, by decide +kernel, by decide +kernel, by decide +kernel, by decide +kernel, by decide +kernel, by decide +kernel, by decide +kernel, by decide +kernel, by decide +kernel⟩
set_option maxRecDepth 100000 in
theorem te_26 : lqTE cL_law 1555 1585 15 182 := by decide +kernel
set_option maxRecDepth 100000 in
theorem ti_26 : lqTI cL_law 1555 := by decide +kernel
set_option maxRecDepth 100000 in
theorem hd_27 : lqHD1 cL_law 1588 190 192 := ⟨by decide +kernel, by decide +kernel, by decide +kernel, by decide +kernel, by decide +kernel, by decide +kernel, by decide +kernel, by decide +kernel⟩
set_option maxRecDepth 100000 in
theorem te_27 : lqTE cL_law 1611 1641 15 126 := by decide +kernel
set_option maxRecDepth 100000 in
theorem ti_27 : lqTI cL_law 1611 := by decide +kernel
set_option maxRecDepth 100000 in
theorem hd_28 : lqHD2 cL_law 1644 193 195 := ⟨by decide +kernel, by decide +kernel, by decide +kernel, by decide +kernel, by decide +kernel, by decide +kernel, by decide +kernel, by decide +kernel, by decide +kernel, by decide +kernel⟩
set_option maxRecDepth 100000 in
theorem te_28 : lqTE cL_law 1679 1709 15 58 := by decide +kernel
set_option maxRecDepth 100000 in
theorem ti_28 : lqTI cL_law 1679 := by decide +kernel
set_option maxRecDepth 100000 in
theorem dL_law_0 : decode cL_law 0 = .ok (.new 8, 3) := by decide +kernel
set_option maxRecDepth 100000 in
theorem dL_law_3 : decode cL_law 3 = .ok (.dup, 1) := by decide +kernel
set_option maxRecDepth 100000 in
theorem dL_law_4 : decode cL_law 4 = .ok (.invokespecial 90, 3) := by decide +kernel
set_option maxRecDepth 100000 in
theorem dL_law_7 : decode cL_law 7 = .ok (.astore_n 1, 1) := by decide +kernel
set_option maxRecDepth 100000 in
theorem dL_law_8 : decode cL_law 8 = .ok (.new 91, 3) := by decide +kernel
set_option maxRecDepth 100000 in
theorem dL_law_11 : decode cL_law 11 = .ok (.dup, 1) := by decide +kernel
set_option maxRecDepth 100000 in
theorem dL_law_12 : decode cL_law 12 = .ok (.invokespecial 93, 3) := by decide +kernel
set_option maxRecDepth 100000 in
theorem dL_law_15 : decode cL_law 15 = .ok (.astore_n 2, 1) := by decide +kernel
set_option maxRecDepth 100000 in
theorem dL_law_16 : decode cL_law 16 = .ok (.iconst 1, 1) := by decide +kernel
set_option maxRecDepth 100000 in
theorem dL_law_17 : decode cL_law 17 = .ok (.newarray .long, 2) := by decide +kernel
set_option maxRecDepth 100000 in
theorem dL_law_19 : decode cL_law 19 = .ok (.astore_n 3, 1) := by decide +kernel
set_option maxRecDepth 100000 in
theorem dL_law_20 : decode cL_law 20 = .ok (.iconst 0, 1) := by decide +kernel
set_option maxRecDepth 100000 in
theorem dL_law_21 : decode cL_law 21 = .ok (.istore 4, 2) := by decide +kernel
set_option maxRecDepth 100000 in
theorem dL_law_23 : decode cL_law 23 = .ok (.iload 4, 2) := by decide +kernel
set_option maxRecDepth 100000 in
theorem dL_law_25 : decode cL_law 25 = .ok (.aload_n 0, 1) := by decide +kernel
set_option maxRecDepth 100000 in
theorem dL_law_26 : decode cL_law 26 = .ok (.arraylength, 1) := by decide +kernel
set_option maxRecDepth 100000 in
theorem dL_law_27 : decode cL_law 27 = .ok (.iconst 4, 1) := by decide +kernel
set_option maxRecDepth 100000 in
theorem dL_law_28 : decode cL_law 28 = .ok (.isub, 1) := by decide +kernel
set_option maxRecDepth 100000 in
theorem dL_law_29 : decode cL_law 29 = .ok (.if_icmp .gt 1744, 3) := by decide +kernel
set_option maxRecDepth 100000 in
theorem dL_law_32 : decode cL_law 32 = .ok (.aload_n 0, 1) := by decide +kernel
set_option maxRecDepth 100000 in
theorem dL_law_33 : decode cL_law 33 = .ok (.iload 4, 2) := by decide +kernel
set_option maxRecDepth 100000 in
theorem dL_law_35 : decode cL_law 35 = .ok (.iaload, 1) := by decide +kernel
set_option maxRecDepth 100000 in
theorem dL_law_36 : decode cL_law 36 = .ok (.bipush 31, 2) := by decide +kernel
set_option maxRecDepth 100000 in
theorem dL_law_38 : decode cL_law 38 = .ok (.iand, 1) := by decide +kernel
set_option maxRecDepth 100000 in
theorem dL_law_39 : decode cL_law 39 = .ok (.tableswitch 1728 0 30 #[137, 181, 261, 341, 409, 477, 545, 601, 614, 627, 683, 751, 819, 875, 931, 987, 1062, 1118, 1131, 1144, 1200, 1213, 1281, 1337, 1400, 1413, 1481, 1549, 1605, 1673, 1714], 137) := by decide +kernel
set_option maxRecDepth 100000 in
theorem dL_law_1712 : decode cL_law 1712 = .ok (.aload_n 1, 1) := by decide +kernel
set_option maxRecDepth 100000 in
theorem dL_law_1713 : decode cL_law 1713 = .ok (.invokevirtual 196, 3) := by decide +kernel
set_option maxRecDepth 100000 in
theorem dL_law_1716 : decode cL_law 1716 = .ok (.dstore 5, 2) := by decide +kernel
set_option maxRecDepth 100000 in
theorem dL_law_1718 : decode cL_law 1718 = .ok (.aload_n 2, 1) := by decide +kernel
set_option maxRecDepth 100000 in
theorem dL_law_1719 : decode cL_law 1719 = .ok (.invokevirtual 200, 3) := by decide +kernel
set_option maxRecDepth 100000 in
theorem dL_law_1722 : decode cL_law 1722 = .ok (.dstore 7, 2) := by decide +kernel
set_option maxRecDepth 100000 in
theorem dL_law_1724 : decode cL_law 1724 = .ok (.dload 5, 2) := by decide +kernel
set_option maxRecDepth 100000 in
theorem dL_law_1726 : decode cL_law 1726 = .ok (.dload 7, 2) := by decide +kernel
set_option maxRecDepth 100000 in
theorem dL_law_1728 : decode cL_law 1728 = .ok (.dcmp .l, 1) := by decide +kernel
set_option maxRecDepth 100000 in
theorem dL_law_1729 : decode cL_law 1729 = .ok (.ifCond .eq 21, 3) := by decide +kernel
set_option maxRecDepth 100000 in
theorem dL_law_1732 : decode cL_law 1732 = .ok (.dload 5, 2) := by decide +kernel
set_option maxRecDepth 100000 in
theorem dL_law_1734 : decode cL_law 1734 = .ok (.dload 5, 2) := by decide +kernel
set_option maxRecDepth 100000 in
theorem dL_law_1736 : decode cL_law 1736 = .ok (.dcmp .l, 1) := by decide +kernel
set_option maxRecDepth 100000 in
theorem dL_law_1737 : decode cL_law 1737 = .ok (.ifCond .eq 11, 3) := by decide +kernel
set_option maxRecDepth 100000 in
theorem dL_law_1740 : decode cL_law 1740 = .ok (.dload 7, 2) := by decide +kernel
set_option maxRecDepth 100000 in
theorem dL_law_1742 : decode cL_law 1742 = .ok (.dload 7, 2) := by decide +kernel
set_option maxRecDepth 100000 in
theorem dL_law_1744 : decode cL_law 1744 = .ok (.dcmp .l, 1) := by decide +kernel
set_option maxRecDepth 100000 in
theorem dL_law_1745 : decode cL_law 1745 = .ok (.ifCond .ne 5, 3) := by decide +kernel
set_option maxRecDepth 100000 in
theorem dL_law_1748 : decode cL_law 1748 = .ok (.iconst 0, 1) := by decide +kernel
set_option maxRecDepth 100000 in
theorem dL_law_1749 : decode cL_law 1749 = .ok (.ireturn, 1) := by decide +kernel
set_option maxRecDepth 100000 in
theorem dL_law_1750 : decode cL_law 1750 = .ok (.goto 17, 3) := by decide +kernel
set_option maxRecDepth 100000 in
theorem dL_law_1753 : decode cL_law 1753 = .ok (.aload_n 1, 1) := by decide +kernel
set_option maxRecDepth 100000 in
theorem dL_law_1754 : decode cL_law 1754 = .ok (.invokevirtual 201, 3) := by decide +kernel
set_option maxRecDepth 100000 in
theorem dL_law_1757 : decode cL_law 1757 = .ok (.aload_n 2, 1) := by decide +kernel
set_option maxRecDepth 100000 in
theorem dL_law_1758 : decode cL_law 1758 = .ok (.invokevirtual 205, 3) := by decide +kernel
set_option maxRecDepth 100000 in
theorem dL_law_1761 : decode cL_law 1761 = .ok (.lcmp, 1) := by decide +kernel
set_option maxRecDepth 100000 in
theorem dL_law_1762 : decode cL_law 1762 = .ok (.ifCond .eq 5, 3) := by decide +kernel
set_option maxRecDepth 100000 in
theorem dL_law_1765 : decode cL_law 1765 = .ok (.iconst 0, 1) := by decide +kernel
set_option maxRecDepth 100000 in
theorem dL_law_1766 : decode cL_law 1766 = .ok (.ireturn, 1) := by decide +kernel
set_option maxRecDepth 100000 in
theorem dL_law_1767 : decode cL_law 1767 = .ok (.iinc 4 4, 3) := by decide +kernel
set_option maxRecDepth 100000 in
theorem dL_law_1770 : decode cL_law 1770 = .ok (.goto (-1747), 3) := by decide +kernel
set_option maxRecDepth 100000 in
theorem dL_law_1773 : decode cL_law 1773 = .ok (.iconst 1, 1) := by decide +kernel
set_option maxRecDepth 100000 in
theorem dL_law_1774 : decode cL_law 1774 = .ok (.ireturn, 1) := by decide +kernel
