/-! build -/
theorem si_born : ∀ j, j < 4 → defaultValue (tyX2 j) = vp_V [.int (iI 0), .null, .null, .null] j := by
  intro j hj
  match j, hj with
  | 0, _ => rfl
  | 1, _ => rfl
  | 2, _ => rfl
  | 3, _ => rfl
theorem JS.mono {E : EN} {ad : Int → Nat} {zc sm : Nat} {n0 n1 : Int} {H : Heap} (h : JS E ad zc sm n1 H) (hn : n0 ≤ n1) : JS E ad zc sm n0 H := by
  obtain ⟨S, sp, se, al, n, pg, ⟨J, A, h1⟩, h2⟩ := h
  exact ⟨S, sp, se, al, n, pg, ⟨J, A, by omega⟩, h2⟩
theorem idiv_nn {a n : Int} (ha : 0 ≤ a ∧ a ≤ 2147483647) (hn : 1 ≤ n ∧ n ≤ 100000) : iI a / iI n = iI (a / n) := by
  have hk0 : 0 ≤ a / n := Int.ediv_nonneg ha.1 (by omega)
  have hk1 : a / n ≤ a := Int.ediv_le_self _ ha.1
  apply Int32.toInt_inj.mp
  rw [Int32.toInt_div, iI_t (by omega), iI_t (by omega), iI_t (by omega), Int.tdiv_eq_ediv_of_nonneg ha.1]
  exact Int.bmod_eq_of_le (by omega) (by omega)
section GJ
variable {p : Program} {l : Launch} {e : Env} {R : Room} {s : State} {m : MethodId} {args : Array Value} {below : List Frame} {meth : Method} {c : Code} {nL : Nat} {A : Nat → Prop} {cells slots : Nat} {Q : State → Prop}
variable {cc : ByteArray} {Ts : List Cond} {own : String} {pc : Nat} {lv lv' : List (Nat × Value)} {st : List Value} {Wp Wp' : Heap → Prop} {E : EN}
theorem g_idiv (S : CallFix p m c cc nL s args Ts own) {x y z : Int32} (hd : decode cc pc = .ok (.idiv, 1)) (hne : ¬ y = 0) (hz : x / y = z) (kk : G p l e R s m args below meth c nL A cells slots Q (pc + 1) lv (.int z :: st) Wp) : G p l e R s m args below meth c nL A cells slots Q pc lv (.int y :: .int x :: st) Wp :=
  fun H locs ls hl hw hS => lv_idiv S.1 S.2.1 hd hne (by rw [hz]; exact kk H locs ls hl hw hS)
/-- the two side by side, by their names -/
theorem g_js {ad : Int → Nat} {zc sm : Nat} {n0 : Int} {V : Heap → Prop} (k : ∀ (z : Nat) (S : SA) (sp : Int → SpT) (se : Int → Int) (al : Int → Nat) (n pg : Int), sm < z → TG zc sm S sp n → JV sp se al n pg → AL2 S al n → n0 ≤ n → G p l e R s m args below meth c nL A cells slots Q pc lv st (fun H => H.size = z ∧ va_at E.1 vwCl (sm, .inr (2, [.int (iI pg), .ref (s3 S), .ref (s1 S), .ref (s2 S)])) H ∧ SX E zc sm S sp se n H ∧ CA E ad sp se al n pg H ∧ V H)) : G p l e R s m args below meth c nL A cells slots Q pc lv st (fun H => JS E ad zc sm n0 H ∧ V H) :=
  fun H locs ls hl ⟨⟨S, sp, se, al, n, pg, ⟨J, hA, hn⟩, ho, hx, hc⟩, hv⟩ hS => k H.size S sp se al n pg ho.lt hx.tg J hA hn H locs ls hl ⟨rfl, ho, hx, hc, hv⟩ hS
end GJ
/-! the word of the nest, beside a method's own -/
def NN (s : State) : Prop := va_Nw (.methodLinkNest RL 96 yX2_init RL) s
theorem NN.warm {s U : State} (hW : s.WarmedH U.vm) (h : NN s) : NN U := va_Nw.warmM hW h
def CN (E : EN) (bs : Nat) (As : List Value) (Wp : Heap → Prop) : Array Value → State → Prop := va_Pc As (fun U => KC E U ∧ Wp U.heap ∧ TX bs U ∧ OA U ∧ NN U)
theorem CN_blind {E : EN} {bs : Nat} {As : List Value} {Wp : Heap → Prop} : FrameBlind (CN E bs As Wp) := by
  intro a U g mk h
  obtain ⟨h0, h1, h2, h3, h4, h5⟩ := h
  exact ⟨h0, va_K.moved (u := U) (U := U.calling g mk a) (Vm.Alike.refl U.vm) h1, h2, TX_calling h3, OA.moved (u := U) (U := U.calling g mk a) (Vm.Alike.refl U.vm) h4, va_Nw.same (u := U) (U := U.calling g mk a) rfl rfl h5⟩
theorem g_metN {l : Launch} {y : MethodName} {ws ws' : List Cond} {rm : Room} {E : EN} {bs : Nat} {As : List Value} {W1 : Heap → Prop} {Qc : Array Value → State → Outcome → State → Prop} {mc ms : Nat} {A : Nat → Prop} {cc : ByteArray} {maxL : Nat} {ret : Option FieldType} {lv : List (Nat × Value)}
    (hy : plainName y.cls = true) (hw : ws = Cond.code y cc maxL ret :: ws') (hlen : (lg_sl As).length ≤ maxL) (hlv : lv_args 0 As = lv)
    (body : ∀ (p : Program) (e : Env) (s : State) (m : MethodId) (args : Array Value) (below : List Frame) (meth : Method) (c : Code), CallFix p m c cc maxL s args ws y.cls → KC E s → TX bs s → OA s → NN s → meth.sig.returnType = ret → meth.locks = false → G p l e rm s m args below meth c maxL A 0 0 (MQ below Qc args s mc ms A) 0 lv [] W1) :
    Met l y ws rm (CN E bs As W1) Qc mc ms A := by
  refine Met.ofW (cc := cc) (maxL := maxL) (ret := ret) hy hw ?_
  intro p e s m args below meth c s₁ B hml hv
  obtain ⟨rfl, hK, hW1, hX, hO, hN⟩ := hv
  have hl := lv_entry As hlen
  rw [lg_entry_eq]
  subst hlv
  exact body p e s m _ below meth c ⟨B.exec, B.bytes, hml, findClass_of_methodNamed B.named, atoms_spec (ws := ws) B.pre⟩ hK hX hO hN B.returns B.notSynchronized s.heap [] _ hl hW1 va_S.rf
section GN
variable {p : Program} {l : Launch} {e : Env} {R : Room} {s : State} {m : MethodId} {args : Array Value} {below : List Frame} {meth : Method} {c : Code} {nL : Nat} {A : Nat → Prop} {cells slots : Nat} {Q : State → Prop}
variable {cc : ByteArray} {Ts : List Cond} {own host : String} {pc : Nat} {lv lv' : List (Nat × Value)} {st : List Value} {Wp Wp' : Heap → Prop} {E : EN} {bs : Nat}
variable {y : MethodName} {bytes : ByteArray} {maxL n index mc ms : Nat} {ret : Option FieldType} {ws : List Cond} {rm : Room} {As stk stk' : List Value} {b ci : Nat} {ov : Option Value} {W1 W2 : Heap → Prop} {A1 : Nat → Prop}
theorem g_callSN (S : CallFix p m c cc nL s args Ts own) (hK : KC E s) (hX : TX bs s) (hO : OA s) (hN : NN s) (hAb : ∀ q, A q → bs ≤ q) (hM : Met l y ws rm (CN E bs As W1) (QW ov W2 A1) mc ms A1) (cw : CallB R s args own index y bytes maxL ret ws rm mc ms n ∧ (Cond.static y).before args s = true) (hst : stk = As.reverse ++ st) (hst2 : ov.toList ++ st = stk') (hn : As.length = n) (hrm : (st.map fun v => v.category).sum ≤ 8) (hcs : cells + mc ≤ R.cells ∧ slots + ms ≤ R.slots) (hA : ∀ q, A1 q → A q) (hW : ∀ H, Wp H → W1 H) (hW2 : ∀ H H', Wp H → W2 H' → H.size ≤ H'.size → (∀ q : Nat, q < H.size → ¬ A1 q → H'[q]? = H[q]?) → Wp' H') (hd : decode cc pc = .ok (.invokestatic index, 3)) (kk : G p l e R s m args below meth c nL A (cells + mc) (slots + ms) Q (pc + 3) lv stk' Wp') : G p l e R s m args below meth c nL A cells slots Q pc lv stk Wp := by
  intro H locs ls hl h hS T hT X
  obtain ⟨v, st₀, t, T', L, h0, X', hL, e1, e2, ⟨hv, hw2, hF⟩, stp⟩ := va_runS (H := H) (g := F0 m pc ls stk) (rest := st) S hM cw ⟨CN_blind, fun U hU hWm => ⟨rfl, va_K.moved hWm.alike hK, by rw [hU]; exact hW H h, TX_go hX hAb hS hU hWm, OA.moved hWm.alike hO, NN.warm hWm hN⟩⟩ rfl hn hl.1 hst (lv_room hrm) hd hcs T hT X
  cases hv
  obtain ⟨k1, k2, k3⟩ := vx_keep h0 e1 hS (fun q _ hq => hA q hq) hA hL hF
  obtain ⟨t2, a1, b1⟩ := kk T'.heap (locs ++ L) ls hl (hW2 H T'.heap h (e1 ▸ hw2) k1 k2) k3 T' rfl X'
  refine ⟨t2, stp t2 ?_, b1⟩
  rw [← hst2] at a1
  exact a1
/-- a constructor of the nest -/
theorem g_callNS (S : CallFix p m c cc nL s args Ts own) (hK : KC E s) (hO : OA s) (hM : Met l y ws rm (CS E (.ref b :: As) W1) (QW none W2 A1) mc ms A1) (cw : va_CN R s args own index y host bytes maxL none ws rm mc ms n ∧ y.name = "<init>" ∧ (Cond.instanceMethod y).before args s = true) (hst : stk = As.reverse ++ .ref b :: st) (hn : As.length = n) (hrm : (st.map fun v => v.category).sum ≤ 8) (hcs : cells + mc ≤ R.cells ∧ slots + ms ≤ R.slots) (hA : ∀ q, A1 q → A q) (hW : ∀ H, Wp H → W1 H) (hW2 : ∀ H H', Wp H → W2 H' → H.size ≤ H'.size → (∀ q : Nat, q < H.size → ¬ A1 q → H'[q]? = H[q]?) → Wp' H') (hd : decode cc pc = .ok (.invokespecial index, 3)) (kk : G p l e R s m args below meth c nL A (cells + mc) (slots + ms) Q (pc + 3) lv st Wp') : G p l e R s m args below meth c nL A cells slots Q pc lv stk Wp :=
  g_after (ov := none) (Qa := (Value.ref b :: As).toArray) (fun H locs ls hl h => va_runIN S hM cw ⟨CS_blind, fun U hU hWm => ⟨rfl, va_K.moved hWm.alike hK, by rw [hU]; exact hW H h, OA.moved hWm.alike hO⟩⟩ rfl hn hl.1 hst (lv_room hrm) hd hcs) hA hW2 rfl kk
theorem g_aobj {x : Nat} {t : String} (S : CallFix p m c cc nL s args Ts own) (hr : meth.sig.returnType = some (.object t)) (hlocks : meth.locks = false) (hd : decode cc pc = .ok (.areturn, 1)) (hW : ∀ H, Wp H → Wp' H) : G p l e R s m args below meth c nL A cells slots (MQ below (QW (some (.ref x)) Wp' A) args s cells slots A) pc lv [.ref x] Wp :=
  fun H locs ls hl h hS => W.aret S.1 S.2.1 hr (Or.inl ⟨_, rfl⟩) (Or.inr ⟨_, rfl⟩) (fun t ht _ => ⟨rfl, ht ▸ hW H h, hS.F ht⟩) hS.2.2 hd hlocks
end GN
