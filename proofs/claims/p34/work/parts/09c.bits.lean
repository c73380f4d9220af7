section GR2
variable {p : Program} {l : Launch} {e : Env} {R : Room} {s : State} {m : MethodId} {args : Array Value} {below : List Frame} {meth : Method} {c : Code} {nL : Nat} {A : Nat → Prop} {cells slots : Nat} {Q : State → Prop}
variable {cc : ByteArray} {Ts : List Cond} {own : String} {pc : Nat} {lv lv' : List (Nat × Value)} {st : List Value} {Wp Wp' : Heap → Prop} {E : EN}
theorem g_iushr (S : CallFix p m c cc nL s args Ts own) {x y : Int32} (hd : decode cc pc = .ok (.iushr, 1)) (k : G p l e R s m args below meth c nL A cells slots Q (pc + 1) lv (.int (x.toUInt32 >>> (y.toUInt32 &&& Int32.toUInt32 31)).toInt32 :: st) Wp) : G p l e R s m args below meth c nL A cells slots Q pc lv (.int y :: .int x :: st) Wp :=
  fun H locs ls hl hw hS => lv_iushr S.1 S.2.1 hd rfl (k H locs ls hl hw hS)
theorem g_ldcw (S : CallFix p m c cc nL s args Ts own) {ix : Nat} {v : Int32} (hc : (Cond.constant own ix v).before args s = true) (hd : decode cc pc = .ok (.ldc_w ix, 3)) (k : G p l e R s m args below meth c nL A cells slots Q (pc + 3) lv (.int v :: st) Wp) : G p l e R s m args below meth c nL A cells slots Q pc lv st Wp :=
  fun H locs ls hl hw hS => lv_ldcw S.1 S.2.1 S.2.2.2.1 hc hd (k H locs ls hl hw hS)
theorem g_iaddx (S : CallFix p m c cc nL s args Ts own) {x y : Int32} (hd : decode cc pc = .ok (.iadd, 1)) (k : G p l e R s m args below meth c nL A cells slots Q (pc + 1) lv (.int (x + y) :: st) Wp) : G p l e R s m args below meth c nL A cells slots Q pc lv (.int y :: .int x :: st) Wp :=
  fun H locs ls hl hw hS => lv_iadd S.1 S.2.1 hd (k H locs ls hl hw hS)
theorem g_isubx (S : CallFix p m c cc nL s args Ts own) {x y : Int32} (hd : decode cc pc = .ok (.isub, 1)) (k : G p l e R s m args below meth c nL A cells slots Q (pc + 1) lv (.int (x - y) :: st) Wp) : G p l e R s m args below meth c nL A cells slots Q pc lv (.int y :: .int x :: st) Wp :=
  fun H locs ls hl hw hS => lv_isub S.1 S.2.1 hd (k H locs ls hl hw hS)
end GR2
set_option maxHeartbeats 4000000 in
set_option maxRecDepth 100000 in
theorem m_J6_bitCount_0f7a4 (l : Launch) (E : EN) (Wp : Heap → Prop) (m : Nat) (hm : m < 2 ^ 24) : Met l yJ6_bitCount_0f7a4 wsJ6_bitCount_0f7a4 ({ frames := 0, cells := 0, slots := 0, locals := 0 }) (CI E [.int (iI (m : Int))] Wp) (QW (some (.int (iI ((pop m 24 : Nat) : Int)))) Wp (fun _ => False)) 0 0 (fun _ => False) := by
  refine g_met (cc := cJ6_bitCount_0f7a4) (maxL := 1) (ret := some .int) (lv := [(0, .int (iI (m : Int)))]) (by decide) rfl (Nat.le_of_ble_eq_true rfl) rfl ?_
  intro xp xe xs xm xa xb xh xc S hK hr hlk hin2
  have k265 := S.2.2.2.2 (.constant RJ6 265 1431655765) (by decide +kernel)
  have k266 := S.2.2.2.2 (.constant RJ6 266 858993459) (by decide +kernel)
  have k267 := S.2.2.2.2 (.constant RJ6 267 252645135) (by decide +kernel)
  rw [← bcX_pop hm]
  generalize iI (m : Int) = x0
  unfold bcX
  dsimp only
  refine g_iload_n S dJ6_bitCount_0f7a4_0 rfl 0 rfl ?_
  refine g_iload_n S dJ6_bitCount_0f7a4_1 rfl 0 rfl ?_
  refine g_iconst S dJ6_bitCount_0f7a4_2 ?_
  refine g_iushr S dJ6_bitCount_0f7a4_3 ?_
  refine g_ldcw S k265 dJ6_bitCount_0f7a4_4 ?_
  refine g_iand S dJ6_bitCount_0f7a4_7 rfl ?_
  refine g_isubx S dJ6_bitCount_0f7a4_8 ?_
  generalize x0 - ((x0.toUInt32 >>> ((iI 1).toUInt32 &&& Int32.toUInt32 31)).toInt32 &&& 1431655765) = x1
  refine g_istore_n S (lv' := [(0, .int x1)]) dJ6_bitCount_0f7a4_9 rfl (Nat.le_of_ble_eq_true rfl) rfl ?_
  refine g_iload_n S dJ6_bitCount_0f7a4_10 rfl 0 rfl ?_
  refine g_ldcw S k266 dJ6_bitCount_0f7a4_11 ?_
  refine g_iand S dJ6_bitCount_0f7a4_14 rfl ?_
  refine g_iload_n S dJ6_bitCount_0f7a4_15 rfl 0 rfl ?_
  refine g_iconst S dJ6_bitCount_0f7a4_16 ?_
  refine g_iushr S dJ6_bitCount_0f7a4_17 ?_
  refine g_ldcw S k266 dJ6_bitCount_0f7a4_18 ?_
  refine g_iand S dJ6_bitCount_0f7a4_21 rfl ?_
  refine g_iaddx S dJ6_bitCount_0f7a4_22 ?_
  generalize (x1 &&& 858993459) + ((x1.toUInt32 >>> ((iI 2).toUInt32 &&& Int32.toUInt32 31)).toInt32 &&& 858993459) = x2
  refine g_istore_n S (lv' := [(0, .int x2)]) dJ6_bitCount_0f7a4_23 rfl (Nat.le_of_ble_eq_true rfl) rfl ?_
  refine g_iload_n S dJ6_bitCount_0f7a4_24 rfl 0 rfl ?_
  refine g_iload_n S dJ6_bitCount_0f7a4_25 rfl 0 rfl ?_
  refine g_iconst S dJ6_bitCount_0f7a4_26 ?_
  refine g_iushr S dJ6_bitCount_0f7a4_27 ?_
  refine g_iaddx S dJ6_bitCount_0f7a4_28 ?_
  refine g_ldcw S k267 dJ6_bitCount_0f7a4_29 ?_
  refine g_iand S dJ6_bitCount_0f7a4_32 rfl ?_
  generalize (x2 + (x2.toUInt32 >>> ((iI 4).toUInt32 &&& Int32.toUInt32 31)).toInt32) &&& 252645135 = x3
  refine g_istore_n S (lv' := [(0, .int x3)]) dJ6_bitCount_0f7a4_33 rfl (Nat.le_of_ble_eq_true rfl) rfl ?_
  refine g_iload_n S dJ6_bitCount_0f7a4_34 rfl 0 rfl ?_
  refine g_iload_n S dJ6_bitCount_0f7a4_35 rfl 0 rfl ?_
  refine g_bipush S dJ6_bitCount_0f7a4_36 (by decide) ?_
  refine g_iushr S dJ6_bitCount_0f7a4_38 ?_
  refine g_iaddx S dJ6_bitCount_0f7a4_39 ?_
  generalize x3 + (x3.toUInt32 >>> ((iI 8).toUInt32 &&& Int32.toUInt32 31)).toInt32 = x4
  refine g_istore_n S (lv' := [(0, .int x4)]) dJ6_bitCount_0f7a4_40 rfl (Nat.le_of_ble_eq_true rfl) rfl ?_
  refine g_iload_n S dJ6_bitCount_0f7a4_41 rfl 0 rfl ?_
  refine g_iload_n S dJ6_bitCount_0f7a4_42 rfl 0 rfl ?_
  refine g_bipush S dJ6_bitCount_0f7a4_43 (by decide) ?_
  refine g_iushr S dJ6_bitCount_0f7a4_45 ?_
  refine g_iaddx S dJ6_bitCount_0f7a4_46 ?_
  generalize x4 + (x4.toUInt32 >>> ((iI 16).toUInt32 &&& Int32.toUInt32 31)).toInt32 = x5
  refine g_istore_n S (lv' := [(0, .int x5)]) dJ6_bitCount_0f7a4_47 rfl (Nat.le_of_ble_eq_true rfl) rfl ?_
  refine g_iload_n S dJ6_bitCount_0f7a4_48 rfl 0 rfl ?_
  refine g_bipush S dJ6_bitCount_0f7a4_49 (by decide) ?_
  refine g_iand S dJ6_bitCount_0f7a4_51 rfl ?_
  exact g_iret S hr hlk dJ6_bitCount_0f7a4_52 (fun _ h => h)
