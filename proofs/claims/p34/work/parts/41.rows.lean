/-! build -/
theorem si_born : ∀ j, j < 4 → defaultValue (tyX2 j) = vp_V [.int (iI 0), .null, .null, .null] j := by
  intro j hj
  match j, hj with
  | 0, _ => rfl
  | 1, _ => rfl
  | 2, _ => rfl
  | 3, _ => rfl
theorem JS.mono {E : EN} {ad : Int → Nat} {zc sm : Nat} {n0 n1 : Int} {H : Heap} (h : JS E ad zc sm n1 H) (hn : n0 ≤ n1) : JS E ad zc sm n0 H := by
  obtain ⟨S, sp, se, al, n, pg, ⟨J, A, h1⟩, h2⟩ := h
  exact ⟨S, sp, se, al, n, pg, ⟨J, A, by omega⟩, h2⟩
theorem idiv_nn {a n : Int} (ha : 0 ≤ a ∧ a ≤ 2147483647) (hn : 1 ≤ n ∧ n ≤ 100000) : iI a / iI n = iI (a / n) := by
  have hk0 : 0 ≤ a / n := Int.ediv_nonneg ha.1 (by omega)
  have hk1 : a / n ≤ a := Int.ediv_le_self _ ha.1
  apply Int32.toInt_inj.mp
  rw [Int32.toInt_div, iI_t (by omega), iI_t (by omega), iI_t (by omega), Int.tdiv_eq_ediv_of_nonneg ha.1]
  exact Int.bmod_eq_of_le (by omega) (by omega)
section GJ
variable {p : Program} {l : Launch} {e : Env} {R : Room} {s : State} {m : MethodId} {args : Array Value} {below : List Frame} {meth : Method} {c : Code} {nL : Nat} {A : Nat → Prop} {cells slots : Nat} {Q : State → Prop}
variable {cc : ByteArray} {Ts : List Cond} {own : String} {pc : Nat} {lv lv' : List (Nat × Value)} {st : List Value} {Wp Wp' : Heap → Prop} {E : EN}
theorem g_idiv (S : CallFix p m c cc nL s args Ts own) {x y z : Int32} (hd : decode cc pc = .ok (.idiv, 1)) (hne : ¬ y = 0) (hz : x / y = z) (kk : G p l e R s m args below meth c nL A cells slots Q (pc + 1) lv (.int z :: st) Wp) : G p l e R s m args below meth c nL A cells slots Q pc lv (.int y :: .int x :: st) Wp :=
  fun H locs ls hl hw hS => lv_idiv S.1 S.2.1 hd hne (by rw [hz]; exact kk H locs ls hl hw hS)
/-- the two side by side, by their names -/
theorem g_js {ad : Int → Nat} {zc sm : Nat} {n0 : Int} {V : Heap → Prop} (k : ∀ (z : Nat) (S : SA) (sp : Int → SpT) (se : Int → Int) (al : Int → Nat) (n pg : Int), sm < z → TG zc sm S sp n → JV sp se al n pg → AL2 S al n → n0 ≤ n → G p l e R s m args below meth c nL A cells slots Q pc lv st (fun H => H.size = z ∧ va_at E.1 vwCl (sm, .inr (2, [.int (iI pg), .ref (s3 S), .ref (s1 S), .ref (s2 S)])) H ∧ SX E zc sm S sp se n H ∧ CA E ad sp se al n pg H ∧ V H)) : G p l e R s m args below meth c nL A cells slots Q pc lv st (fun H => JS E ad zc sm n0 H ∧ V H) :=
  fun H locs ls hl ⟨⟨S, sp, se, al, n, pg, ⟨J, hA, hn⟩, ho, hx, hc⟩, hv⟩ hS => k H.size S sp se al n pg ho.lt hx.tg J hA hn H locs ls hl ⟨rfl, ho, hx, hc, hv⟩ hS
end GJ
/-! the script: a given cell of ints -/
def SCRP (scr : Cell) (L : Int) (sc : Int → Int) : Prop := scr.vm ≠ .unknown ∧ scr.slots.size = L.toNat ∧ ∀ j : Nat, j < L.toNat → scr.slots[j]? = some (.int (iI (sc j)))
def vS (scr : Cell) (sb : Nat) (H : Heap) : Prop := H[sb]? = some scr
theorem vS.kept {scr : Cell} {sb : Nat} {H H1 : Heap} (h : vS scr sb H) (hq : H1[sb]? = H[sb]?) : vS scr sb H1 := hq.trans h
theorem vS.lt {scr : Cell} {sb : Nat} {H : Heap} (h : vS scr sb H) : sb < H.size := (Array.getElem?_eq_some_iff.mp h).1
theorem LW.vS {scr : Cell} {sb : Nat} : LW (vS scr sb) := fun _ _ hw _ hq => hw.kept (hq _ hw.lt)
def AY (scr : Cell) (U : State) : Prop := U.isArrayOf scr .int
theorem AY.moved {scr : Cell} {u U : State} (hvm : u.vm.Alike U.vm) (h : AY scr u) : AY scr U := State.isArrayOf_alike hvm h
def CY (scr : Cell) (E : EN) (As : List Value) (Wp : Heap → Prop) : Array Value → State → Prop := va_Pc As (fun U => KC E U ∧ Wp U.heap ∧ AY scr U)
theorem CY_blind {scr : Cell} {E : EN} {As : List Value} {Wp : Heap → Prop} : FrameBlind (CY scr E As Wp) := by
  intro a U g mk h
  obtain ⟨h0, h1, h2, h3⟩ := h
  exact ⟨h0, va_K.moved (u := U) (U := U.calling g mk a) (Vm.Alike.refl U.vm) h1, h2, AY.moved (u := U) (U := U.calling g mk a) (Vm.Alike.refl U.vm) h3⟩
theorem g_metY {l : Launch} {y : MethodName} {ws ws' : List Cond} {rm : Room} {scr : Cell} {E : EN} {As : List Value} {W1 : Heap → Prop} {Qc : Array Value → State → Outcome → State → Prop} {mc ms : Nat} {A : Nat → Prop} {cc : ByteArray} {maxL : Nat} {ret : Option FieldType} {lv : List (Nat × Value)}
    (hy : plainName y.cls = true) (hw : ws = Cond.code y cc maxL ret :: ws') (hlen : (lg_sl As).length ≤ maxL) (hlv : lv_args 0 As = lv)
    (body : ∀ (p : Program) (e : Env) (s : State) (m : MethodId) (args : Array Value) (below : List Frame) (meth : Method) (c : Code), CallFix p m c cc maxL s args ws y.cls → KC E s → AY scr s → meth.sig.returnType = ret → meth.locks = false → G p l e rm s m args below meth c maxL A 0 0 (MQ below Qc args s mc ms A) 0 lv [] W1) :
    Met l y ws rm (CY scr E As W1) Qc mc ms A := by
  refine Met.ofW (cc := cc) (maxL := maxL) (ret := ret) hy hw ?_
  intro p e s m args below meth c s₁ B hml hv
  obtain ⟨rfl, hK, hW1, hO⟩ := hv
  have hl := lv_entry As hlen
  rw [lg_entry_eq]
  subst hlv
  exact body p e s m _ below meth c ⟨B.exec, B.bytes, hml, findClass_of_methodNamed B.named, atoms_spec (ws := ws) B.pre⟩ hK hO B.returns B.notSynchronized s.heap [] _ hl hW1 va_S.rf
section GY
variable {p : Program} {l : Launch} {e : Env} {R : Room} {s : State} {m : MethodId} {args : Array Value} {below : List Frame} {meth : Method} {c : Code} {nL : Nat} {A : Nat → Prop} {cells slots : Nat} {Q : State → Prop}
variable {cc : ByteArray} {Ts : List Cond} {own : String} {pc : Nat} {lv lv' : List (Nat × Value)} {st : List Value} {Wp Wp' : Heap → Prop} {E : EN} {scr : Cell} {L : Int} {sc : Int → Int} {a : Nat}
variable {y : MethodName} {bytes : ByteArray} {maxL n index mc ms : Nat} {ret : Option FieldType} {ws : List Cond} {rm : Room} {As stk stk' : List Value} {ov : Option Value} {W1 W2 : Heap → Prop} {A1 : Nat → Prop}
theorem g_lenS (S : CallFix p m c cc nL s args Ts own) (hY : AY scr s) (hP : SCRP scr L sc) (hL : 0 ≤ L) (hw : ∀ H, Wp H → vS scr a H) (hd : decode cc pc = .ok (.arraylength, 1)) (kk : G p l e R s m args below meth c nL A cells slots Q (pc + 1) lv (.int (iI L) :: st) Wp) : G p l e R s m args below meth c nL A cells slots Q pc lv (.ref a :: st) Wp :=
  fun H locs ls hl h hS => W.alen (n := iI L) S.1 S.2.1 (hw H h) hY (by rw [hP.2.1]; show nI L.toNat = iI L; rw [← iI_nat, show ((L.toNat : Nat) : Int) = L by omega]) rfl rfl hd (kk H locs ls hl h hS)
theorem g_ldS (S : CallFix p m c cc nL s args Ts own) (hY : AY scr s) (hP : SCRP scr L sc) {z : Int} (hz : 0 ≤ z ∧ z < L) (hL : L ≤ 1000) (hw : ∀ H, Wp H → vS scr a H) (hd : decode cc pc = .ok (.iaload, 1)) (kk : G p l e R s m args below meth c nL A cells slots Q (pc + 1) lv (.int (iI (sc z)) :: st) Wp) : G p l e R s m args below meth c nL A cells slots Q pc lv (.int (iI z) :: .ref a :: st) Wp := by
  intro H locs ls hl h hS
  have hv := hP.2.2 z.toNat (by omega)
  rw [show ((z.toNat : Nat) : Int) = z by omega] at hv
  exact W.iald (v := .int (iI (sc z))) S.1 S.2.1 (hw H h) hY hP.1 (by rw [hP.2.1]; exact iI_in (by omega) (by omega)) (by rw [iI_cl (by omega) (by omega)]; exact hv) rfl rfl hd (kk H locs ls hl h hS)
theorem g_callSY (S : CallFix p m c cc nL s args Ts own) (hK : KC E s) (hY : AY scr s) (hM : Met l y ws rm (CY scr E As W1) (QW ov W2 A1) mc ms A1) (cw : CallB R s args own index y bytes maxL ret ws rm mc ms n ∧ (Cond.static y).before args s = true) (hst : stk = As.reverse ++ st) (hst2 : ov.toList ++ st = stk') (hn : As.length = n) (hrm : (st.map fun v => v.category).sum ≤ 8) (hcs : cells + mc ≤ R.cells ∧ slots + ms ≤ R.slots) (hA : ∀ q, A1 q → A q) (hW : ∀ H, Wp H → W1 H) (hW2 : ∀ H H', Wp H → W2 H' → H.size ≤ H'.size → (∀ q : Nat, q < H.size → ¬ A1 q → H'[q]? = H[q]?) → Wp' H') (hd : decode cc pc = .ok (.invokestatic index, 3)) (kk : G p l e R s m args below meth c nL A (cells + mc) (slots + ms) Q (pc + 3) lv stk' Wp') : G p l e R s m args below meth c nL A cells slots Q pc lv stk Wp :=
  g_after (Qa := As.toArray) (fun H locs ls hl h => va_runS S hM cw ⟨CY_blind, fun U hU hWm => ⟨rfl, va_K.moved hWm.alike hK, by rw [hU]; exact hW H h, AY.moved hWm.alike hY⟩⟩ rfl hn hl.1 hst (lv_room hrm) hd hcs) hA hW2 hst2 kk
end GY
set_option maxHeartbeats 4000000 in
set_option maxRecDepth 100000 in
theorem m_L_cell2 (l : Launch) (E : EN) {Wp : Heap → Prop} (scr : Cell) (sb : Nat) (L : Int) (sc : Int → Int) (hP : SCRP scr L sc) (k : Int) (hb : ∀ H, Wp H → vS scr sb H) (hL : 0 ≤ L ∧ L ≤ 1000) (hk : 0 ≤ k ∧ k ≤ 1000) : Met l yL_cell wsL_cell ({ frames := 0, cells := 0, slots := 0, locals := 0 }) (CY scr E [.ref (sb), .int (iI k)] (fun H => Wp H)) (QW (some (.int (iI (cel sc L k)))) (Wp) (fun _ => False)) 0 0 (fun _ => False) := by
  refine g_metY (cc := cL_cell) (maxL := 2) (ret := (some .int)) (lv := [(0, .ref (sb)), (1, .int (iI k))]) (by decide) rfl (Nat.le_of_ble_eq_true rfl) rfl ?_
  intro xp xe xs xm xa xb xh xc S xK xY xr xlk
  have kk8 := S.2.2.2.2 (.constant RL 8 (790386105)) (by decide +kernel)
  refine g_iload_n S dL_cell_0 rfl 1 rfl ?_
  refine g_aload_n S dL_cell_1 rfl 0 rfl ?_
  refine g_lenS S xY hP hL.1 (fun _ h => hb _ h) dL_cell_2 ?_
  refine g_icmp_ge S (tgt := 12) dL_cell_3 (by decide) (by omega) (fun c3 => ?_) (fun c3 => ?_)
  · skip
    refine g_ldc S (n := 790386105) rfl kk8 dL_cell_12 ?_
    refine g_iload_n S dL_cell_14 rfl 1 rfl ?_
    refine g_iconst S dL_cell_15 ?_
    refine g_iadd S dL_cell_16 ?_
    refine g_imul S dL_cell_17 ?_
    rw [show cel sc L k = (790386105 * (k + 3)) from if_neg (by omega)]
    exact g_iret S xr xlk dL_cell_18 (fun _ h => h)
  · skip
    refine g_aload_n S dL_cell_6 rfl 0 rfl ?_
    refine g_iload_n S dL_cell_7 rfl 1 rfl ?_
    refine g_ldS S xY hP (by omega) hL.2 (fun _ h => hb _ h) dL_cell_8 ?_
    refine g_goto S (tgt := 18) dL_cell_9 (by decide) ?_
    rw [show cel sc L k = (sc k) from if_pos (by omega)]
    exact g_iret S xr xlk dL_cell_18 (fun _ h => h)
/-! the word of the nest, beside a method's own -/
def NN (scr : Cell) (s : State) : Prop := va_Nw (.methodLinkNest RL 96 yX2_init RL) s ∧ AY scr s
theorem NN.warm {scr : Cell} {s U : State} (hW : s.WarmedH U.vm) (h : NN scr s) : NN scr U := ⟨va_Nw.warmM hW h.1, AY.moved hW.alike h.2⟩
def CN (scr : Cell) (E : EN) (bs : Nat) (As : List Value) (Wp : Heap → Prop) : Array Value → State → Prop := va_Pc As (fun U => KC E U ∧ Wp U.heap ∧ TX bs U ∧ OA U ∧ NN scr U)
theorem CN_blind {scr : Cell} {E : EN} {bs : Nat} {As : List Value} {Wp : Heap → Prop} : FrameBlind (CN scr E bs As Wp) := by
  intro a U g mk h
  obtain ⟨h0, h1, h2, h3, h4, h5⟩ := h
  exact ⟨h0, va_K.moved (u := U) (U := U.calling g mk a) (Vm.Alike.refl U.vm) h1, h2, TX_calling h3, OA.moved (u := U) (U := U.calling g mk a) (Vm.Alike.refl U.vm) h4, ⟨va_Nw.same (u := U) (U := U.calling g mk a) rfl rfl h5.1, AY.moved (u := U) (U := U.calling g mk a) (Vm.Alike.refl U.vm) h5.2⟩⟩
theorem g_metN {scr : Cell} {l : Launch} {y : MethodName} {ws ws' : List Cond} {rm : Room} {E : EN} {bs : Nat} {As : List Value} {W1 : Heap → Prop} {Qc : Array Value → State → Outcome → State → Prop} {mc ms : Nat} {A : Nat → Prop} {cc : ByteArray} {maxL : Nat} {ret : Option FieldType} {lv : List (Nat × Value)}
    (hy : plainName y.cls = true) (hw : ws = Cond.code y cc maxL ret :: ws') (hlen : (lg_sl As).length ≤ maxL) (hlv : lv_args 0 As = lv)
    (body : ∀ (p : Program) (e : Env) (s : State) (m : MethodId) (args : Array Value) (below : List Frame) (meth : Method) (c : Code), CallFix p m c cc maxL s args ws y.cls → KC E s → TX bs s → OA s → NN scr s → meth.sig.returnType = ret → meth.locks = false → G p l e rm s m args below meth c maxL A 0 0 (MQ below Qc args s mc ms A) 0 lv [] W1) :
    Met l y ws rm (CN scr E bs As W1) Qc mc ms A := by
  refine Met.ofW (cc := cc) (maxL := maxL) (ret := ret) hy hw ?_
  intro p e s m args below meth c s₁ B hml hv
  obtain ⟨rfl, hK, hW1, hX, hO, hN⟩ := hv
  have hl := lv_entry As hlen
  rw [lg_entry_eq]
  subst hlv
  exact body p e s m _ below meth c ⟨B.exec, B.bytes, hml, findClass_of_methodNamed B.named, atoms_spec (ws := ws) B.pre⟩ hK hX hO hN B.returns B.notSynchronized s.heap [] _ hl hW1 va_S.rf
section GN
variable {p : Program} {l : Launch} {e : Env} {R : Room} {s : State} {m : MethodId} {args : Array Value} {below : List Frame} {meth : Method} {c : Code} {nL : Nat} {A : Nat → Prop} {cells slots : Nat} {Q : State → Prop}
variable {cc : ByteArray} {Ts : List Cond} {own host : String} {scr : Cell} {pc : Nat} {lv lv' : List (Nat × Value)} {st : List Value} {Wp Wp' : Heap → Prop} {E : EN} {bs : Nat}
variable {y : MethodName} {bytes : ByteArray} {maxL n index mc ms : Nat} {ret : Option FieldType} {ws : List Cond} {rm : Room} {As stk stk' : List Value} {b ci : Nat} {ov : Option Value} {W1 W2 : Heap → Prop} {A1 : Nat → Prop}
theorem g_callSN (S : CallFix p m c cc nL s args Ts own) (hK : KC E s) (hX : TX bs s) (hO : OA s) (hN : NN scr s) (hAb : ∀ q, A q → bs ≤ q) (hM : Met l y ws rm (CN scr E bs As W1) (QW ov W2 A1) mc ms A1) (cw : CallB R s args own index y bytes maxL ret ws rm mc ms n ∧ (Cond.static y).before args s = true) (hst : stk = As.reverse ++ st) (hst2 : ov.toList ++ st = stk') (hn : As.length = n) (hrm : (st.map fun v => v.category).sum ≤ 8) (hcs : cells + mc ≤ R.cells ∧ slots + ms ≤ R.slots) (hA : ∀ q, A1 q → A q) (hW : ∀ H, Wp H → W1 H) (hW2 : ∀ H H', Wp H → W2 H' → H.size ≤ H'.size → (∀ q : Nat, q < H.size → ¬ A1 q → H'[q]? = H[q]?) → Wp' H') (hd : decode cc pc = .ok (.invokestatic index, 3)) (kk : G p l e R s m args below meth c nL A (cells + mc) (slots + ms) Q (pc + 3) lv stk' Wp') : G p l e R s m args below meth c nL A cells slots Q pc lv stk Wp := by
  intro H locs ls hl h hS T hT X
  obtain ⟨v, st₀, t, T', L, h0, X', hL, e1, e2, ⟨hv, hw2, hF⟩, stp⟩ := va_runS (H := H) (g := F0 m pc ls stk) (rest := st) S hM cw ⟨CN_blind, fun U hU hWm => ⟨rfl, va_K.moved hWm.alike hK, by rw [hU]; exact hW H h, TX_go hX hAb hS hU hWm, OA.moved hWm.alike hO, NN.warm hWm hN⟩⟩ rfl hn hl.1 hst (lv_room hrm) hd hcs T hT X
  cases hv
  obtain ⟨k1, k2, k3⟩ := vx_keep h0 e1 hS (fun q _ hq => hA q hq) hA hL hF
  obtain ⟨t2, a1, b1⟩ := kk T'.heap (locs ++ L) ls hl (hW2 H T'.heap h (e1 ▸ hw2) k1 k2) k3 T' rfl X'
  refine ⟨t2, stp t2 ?_, b1⟩
  rw [← hst2] at a1
  exact a1
/-- a constructor of the nest -/
theorem g_callNS (S : CallFix p m c cc nL s args Ts own) (hK : KC E s) (hO : OA s) (hM : Met l y ws rm (CS E (.ref b :: As) W1) (QW none W2 A1) mc ms A1) (cw : va_CN R s args own index y host bytes maxL none ws rm mc ms n ∧ y.name = "<init>" ∧ (Cond.instanceMethod y).before args s = true) (hst : stk = As.reverse ++ .ref b :: st) (hn : As.length = n) (hrm : (st.map fun v => v.category).sum ≤ 8) (hcs : cells + mc ≤ R.cells ∧ slots + ms ≤ R.slots) (hA : ∀ q, A1 q → A q) (hW : ∀ H, Wp H → W1 H) (hW2 : ∀ H H', Wp H → W2 H' → H.size ≤ H'.size → (∀ q : Nat, q < H.size → ¬ A1 q → H'[q]? = H[q]?) → Wp' H') (hd : decode cc pc = .ok (.invokespecial index, 3)) (kk : G p l e R s m args below meth c nL A (cells + mc) (slots + ms) Q (pc + 3) lv st Wp') : G p l e R s m args below meth c nL A cells slots Q pc lv stk Wp :=
  g_after (ov := none) (Qa := (Value.ref b :: As).toArray) (fun H locs ls hl h => va_runIN S hM cw ⟨CS_blind, fun U hU hWm => ⟨rfl, va_K.moved hWm.alike hK, by rw [hU]; exact hW H h, OA.moved hWm.alike hO⟩⟩ rfl hn hl.1 hst (lv_room hrm) hd hcs) hA hW2 rfl kk
theorem g_aobj {x : Nat} {t : String} (S : CallFix p m c cc nL s args Ts own) (hr : meth.sig.returnType = some (.object t)) (hlocks : meth.locks = false) (hd : decode cc pc = .ok (.areturn, 1)) (hW : ∀ H, Wp H → Wp' H) : G p l e R s m args below meth c nL A cells slots (MQ below (QW (some (.ref x)) Wp' A) args s cells slots A) pc lv [.ref x] Wp :=
  fun H locs ls hl h hS => W.aret S.1 S.2.1 hr (Or.inl ⟨_, rfl⟩) (Or.inr ⟨_, rfl⟩) (fun t ht _ => ⟨rfl, ht ▸ hW H h, hS.F ht⟩) hS.2.2 hd hlocks
end GN
