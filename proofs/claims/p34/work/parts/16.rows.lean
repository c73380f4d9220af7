/-! THE LAW'S CALLS, WHICH CATCH -/
def NX (U : State) : Prop := va_Nc "java/lang/IllegalArgumentException" "java/lang/IndexOutOfBoundsException" U ∧ va_Nc "java/lang/IllegalStateException" "java/lang/IndexOutOfBoundsException" U ∧ va_Nc "java/lang/IllegalStateException" "java/lang/IllegalArgumentException" U
theorem NX.moved {u U : State} (hvm : u.vm.Alike U.vm) (h : NX u) : NX U := ⟨h.1.moved hvm, h.2.1.moved hvm, h.2.2.moved hvm⟩
def CL (E : EN) (bs : Nat) (As : List Value) (Wp : Heap → Prop) : Array Value → State → Prop := va_Pc As (fun U => KC E U ∧ Wp U.heap ∧ TX bs U ∧ NX U)
theorem CL_blind {E : EN} {bs : Nat} {As : List Value} {Wp : Heap → Prop} : FrameBlind (CL E bs As Wp) := by
  intro a U g mk h
  obtain ⟨h0, h1, h2, h3, h4⟩ := h
  exact ⟨h0, va_K.moved (u := U) (U := U.calling g mk a) (Vm.Alike.refl U.vm) h1, h2, TX_calling h3, NX.moved (u := U) (U := U.calling g mk a) (Vm.Alike.refl U.vm) h4⟩
/-- a contract of a method with handlers, out of a walk -/
theorem g_metW {l : Launch} {y : MethodName} {ws ws' : List Cond} {rm : Room} {E : EN} {bs : Nat} {As : List Value} {W1 W2 : Heap → Prop} {ov : Option Value} {mc ms : Nat} {A : Nat → Prop} {cc : ByteArray} {maxL : Nat} {ret : Option FieldType} {hh : List (Nat × Nat × Nat × Nat)} {lv : List (Nat × Value)}
    (hy : plainName y.cls = true) (hw : ws = Cond.codeWith y cc maxL ret hh :: ws') (hlen : (lg_sl As).length ≤ maxL) (hlv : lv_args 0 As = lv)
    (body : ∀ (p : Program) (e : Env) (s : State) (m : MethodId) (args : Array Value) (below : List Frame) (meth : Method) (c : Code), CallFix p m c cc maxL s args ws y.cls → KC E s → TX bs s → NX s → c.exceptionTable.toList = tableOf hh → meth.sig.returnType = ret → meth.locks = false → G p l e rm s m args below meth c maxL A 0 0 (MQ below (QW ov W2 A) args s mc ms A) 0 lv [] W1) :
    Met l y ws rm (CL E bs As W1) (QW ov W2 A) mc ms A := by
  refine va_MetW (cc := cc) (maxL := maxL) (ret := ret) (hh := hh) hy hw ?_
  intro p e s m args below meth c s₁ B hml hv
  obtain ⟨rfl, hK, hW1, hX, hN⟩ := hv
  have hl := lv_entry As hlen
  have ht := vx_table (x := y) B (atoms_spec (ws := ws) B.pre (Cond.codeWith y cc maxL ret hh) (by rw [hw]; exact List.mem_cons_self))
  rw [lg_entry_eq]
  subst hlv
  exact body p e s m _ below meth c ⟨B.exec, B.bytes, hml, findClass_of_methodNamed B.named, atoms_spec (ws := ws) B.pre⟩ hK hX hN ht B.returns B.notSynchronized s.heap [] _ hl hW1 va_S.rf
section GC
variable {p : Program} {l : Launch} {e : Env} {R : Room} {s : State} {m : MethodId} {args : Array Value} {below : List Frame} {meth : Method} {c : Code} {nL : Nat} {A : Nat → Prop} {cells slots : Nat} {Q : State → Prop}
variable {cc : ByteArray} {Ts : List Cond} {own : String} {pc : Nat} {lv lv' : List (Nat × Value)} {st : List Value} {Wp Wp' : Heap → Prop} {E : EN} {bs : Nat}
variable {y : MethodName} {bytes : ByteArray} {maxL n index mc ms : Nat} {ret : Option FieldType} {ws : List Cond} {rm : Room} {As stk stk' : List Value} {b ci : Nat} {fs : List Value} {r : vw_C} {W1 W2 : Heap → Prop} {A1 : Nat → Prop} {X : String}
theorem g_callVC (S : CallFix p m c cc nL s args Ts own) (hK : KC E s) (hX : TX bs s) (hM : vx_Met l y ws rm (CX E bs (.ref b :: As) W1) QF (XW X W2 A1) 1 6 A1) (cw : CallW R s args own r.1 index y bytes maxL ret ws rm 1 6 n) (hc : vwCl[ci]? = some r) (hst : stk = As.reverse ++ .ref b :: st) (hn : As.length = n) (hrm : (st.map fun v => v.category).sum ≤ 8) (hcs : cells + 1 ≤ R.cells ∧ slots + 6 ≤ R.slots) (hA : ∀ q, A1 q → A q) (hAb : ∀ q, A q → bs ≤ q) (hb : ∀ H, Wp H → va_at E.1 vwCl (b, .inr (ci, fs)) H) (hW : ∀ H, Wp H → W1 H) (hW2 : ∀ H H', Wp H → W2 H' → H.size ≤ H'.size → (∀ q : Nat, q < H.size → ¬ A1 q → H'[q]? = H[q]?) → Wp' H') (hd : decode cc pc = .ok (.invokevirtual index, 3))
    (pre : List ExceptionTableEntry) (x : ExceptionTableEntry) (suf : List ExceptionTableEntry) (hsplit : c.exceptionTable.toList = pre ++ x :: suf) (hpass : ∀ z ∈ pre, z.catchType ≠ 0 ∧ ∃ nm : String, (Cond.classLink own z.catchType nm).before args s = true ∧ va_Nc X nm s) (hx : covers x pc = true) (h0 : x.catchType ≠ 0) (hlink : (Cond.classLink own x.catchType X).before args s = true) (hxl : X ∈ xL)
    (kk : ∀ q : Nat, G p l e R s m args below meth c nL A (cells + 1) (slots + 6) Q x.handlerPc lv [.ref q] Wp') : G p l e R s m args below meth c nL A cells slots Q pc lv stk Wp := by
  intro H locs ls hlv h hS T hT XX
  have hcast := va_Nw.use (A := args) rfl (hX.2.2.2.1 X hxl)
  rcases vx_runV S hM cw ⟨CX_blind, va_recv hK (va1 (hb H h)) (q0 := 0) hc rfl, fun U hU hWm => ⟨rfl, va_K.moved hWm.alike hK, by rw [hU]; exact hW H h, TX_go hX hAb hS hU hWm⟩⟩ (g := F0 m pc ls stk) rfl hn hlv.1 hst (lv_room hrm) hd hcs T hT XX with ⟨v, st₀, t, T', L, h0', X', hL, e1, e2, hq, stp⟩ | ⟨q, st₀, t, T', L, E0, ce, h0', X', hL, e1, e2, ⟨hE, hw2, hF⟩, hce, hcv, hcl, stp⟩
  · exact hq.elim
  · obtain ⟨k1, k2, k3⟩ := vx_keep h0' e1 hS (fun q _ hq => hA q hq) hA hL hF
    have hE2 : E0 = X := hE
    subst hE2
    have kx : vx_W p l e R s m args below meth c T'.heap (locs ++ L) (cells + 1) (slots + 6) Q (F0 m pc ls st) q :=
      vx_catch S.2.2.2.1 pre x suf hsplit (fun z hz => Or.inr (hpass z hz)) hx h0 hlink hcast (by rw [e1]; exact hce) hcv hcl (kk q T'.heap (locs ++ L) ls hlv (hW2 H T'.heap h (e1 ▸ hw2) k1 k2) k3)
    obtain ⟨t2, a1, b1⟩ := kx T' rfl X'
    exact ⟨t2, stp.trans a1, b1⟩
end GC
