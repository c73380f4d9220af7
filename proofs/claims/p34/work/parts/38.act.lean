/-! act: what it needs of the machine -/
def CU (E : EN) (bs : Nat) (As : List Value) (Wp : Heap → Prop) : Array Value → State → Prop := va_Pc As (fun U => KC E U ∧ Wp U.heap ∧ TX bs U ∧ OA U)
theorem CU_blind {E : EN} {bs : Nat} {As : List Value} {Wp : Heap → Prop} : FrameBlind (CU E bs As Wp) := by
  intro a U g mk h
  obtain ⟨h0, h1, h2, h3, h4⟩ := h
  exact ⟨h0, va_K.moved (u := U) (U := U.calling g mk a) (Vm.Alike.refl U.vm) h1, h2, TX_calling h3, OA.moved (u := U) (U := U.calling g mk a) (Vm.Alike.refl U.vm) h4⟩
/-- a contract of a method with handlers, out of a walk -/
theorem g_metU {l : Launch} {y : MethodName} {ws ws' : List Cond} {rm : Room} {E : EN} {bs : Nat} {As : List Value} {W1 W2 : Heap → Prop} {ov : Option Value} {mc ms : Nat} {A : Nat → Prop} {cc : ByteArray} {maxL : Nat} {ret : Option FieldType} {hh : List (Nat × Nat × Nat × Nat)} {lv : List (Nat × Value)}
    (hy : plainName y.cls = true) (hw : ws = Cond.codeWith y cc maxL ret hh :: ws') (hlen : (lg_sl As).length ≤ maxL) (hlv : lv_args 0 As = lv)
    (body : ∀ (p : Program) (e : Env) (s : State) (m : MethodId) (args : Array Value) (below : List Frame) (meth : Method) (c : Code), CallFix p m c cc maxL s args ws y.cls → KC E s → TX bs s → OA s → c.exceptionTable.toList = tableOf hh → meth.sig.returnType = ret → meth.locks = false → G p l e rm s m args below meth c maxL A 0 0 (MQ below (QW ov W2 A) args s mc ms A) 0 lv [] W1) :
    Met l y ws rm (CU E bs As W1) (QW ov W2 A) mc ms A := by
  refine va_MetW (cc := cc) (maxL := maxL) (ret := ret) (hh := hh) hy hw ?_
  intro p e s m args below meth c s₁ B hml hv
  obtain ⟨rfl, hK, hW1, hX, hO⟩ := hv
  have hl := lv_entry As hlen
  have ht := vx_table (x := y) B (atoms_spec (ws := ws) B.pre (Cond.codeWith y cc maxL ret hh) (by rw [hw]; exact List.mem_cons_self))
  rw [lg_entry_eq]
  subst hlv
  exact body p e s m _ below meth c ⟨B.exec, B.bytes, hml, findClass_of_methodNamed B.named, atoms_spec (ws := ws) B.pre⟩ hK hX hO ht B.returns B.notSynchronized s.heap [] _ hl hW1 va_S.rf
/-- the same without handlers -/
theorem g_metV {l : Launch} {y : MethodName} {ws ws' : List Cond} {rm : Room} {E : EN} {bs : Nat} {As : List Value} {W1 : Heap → Prop} {Qc : Array Value → State → Outcome → State → Prop} {mc ms : Nat} {A : Nat → Prop} {cc : ByteArray} {maxL : Nat} {ret : Option FieldType} {lv : List (Nat × Value)}
    (hy : plainName y.cls = true) (hw : ws = Cond.code y cc maxL ret :: ws') (hlen : (lg_sl As).length ≤ maxL) (hlv : lv_args 0 As = lv)
    (body : ∀ (p : Program) (e : Env) (s : State) (m : MethodId) (args : Array Value) (below : List Frame) (meth : Method) (c : Code), CallFix p m c cc maxL s args ws y.cls → KC E s → TX bs s → OA s → meth.sig.returnType = ret → meth.locks = false → G p l e rm s m args below meth c maxL A 0 0 (MQ below Qc args s mc ms A) 0 lv [] W1) :
    Met l y ws rm (CU E bs As W1) Qc mc ms A := by
  refine Met.ofW (cc := cc) (maxL := maxL) (ret := ret) hy hw ?_
  intro p e s m args below meth c s₁ B hml hv
  obtain ⟨rfl, hK, hW1, hX, hO⟩ := hv
  have hl := lv_entry As hlen
  rw [lg_entry_eq]
  subst hlv
  exact body p e s m _ below meth c ⟨B.exec, B.bytes, hml, findClass_of_methodNamed B.named, atoms_spec (ws := ws) B.pre⟩ hK hX hO B.returns B.notSynchronized s.heap [] _ hl hW1 va_S.rf
section GU
variable {p : Program} {l : Launch} {e : Env} {R : Room} {s : State} {m : MethodId} {args : Array Value} {below : List Frame} {meth : Method} {c : Code} {nL : Nat} {A : Nat → Prop} {cells slots : Nat} {Q : State → Prop}
variable {cc : ByteArray} {Ts : List Cond} {own : String} {pc : Nat} {lv lv' : List (Nat × Value)} {st : List Value} {Wp Wp' : Heap → Prop} {E : EN} {bs : Nat}
variable {y : MethodName} {bytes : ByteArray} {maxL n index mc ms : Nat} {ret : Option FieldType} {hh : List (Nat × Nat × Nat × Nat)} {ws : List Cond} {rm : Room} {As stk stk' : List Value} {b ci : Nat} {fs : List Value} {r : vw_C} {ov : Option Value} {W1 W2 : Heap → Prop} {A1 : Nat → Prop} {X : String} {P Wn : Nat → Heap → Prop}
/-- a call that throws, caught by the entry that covers it -/
theorem g_callVC2 (S : CallFix p m c cc nL s args Ts own) (hK : KC E s) (hX : TX bs s) (hM : vx_Met l y ws rm (CX E bs (.ref b :: As) W1) QF (XW X W2 A1) 1 6 A1) (cw : CallW R s args own r.1 index y bytes maxL ret ws rm 1 6 n) (hc : vwCl[ci]? = some r) (hst : stk = As.reverse ++ .ref b :: st) (hn : As.length = n) (hrm : (st.map fun v => v.category).sum ≤ 8) (hcs : cells + 1 ≤ R.cells ∧ slots + 6 ≤ R.slots) (hA : ∀ q, A1 q → A q) (hAb : ∀ q, A q → bs ≤ q) (hb : ∀ H, Wp H → va_at E.1 vwCl (b, .inr (ci, fs)) H) (hW : ∀ H, Wp H → W1 H) (hW2 : ∀ H H', Wp H → W2 H' → H.size ≤ H'.size → (∀ q : Nat, q < H.size → ¬ A1 q → H'[q]? = H[q]?) → Wp' H') (hd : decode cc pc = .ok (.invokevirtual index, 3))
    (pre : List ExceptionTableEntry) (x : ExceptionTableEntry) (suf : List ExceptionTableEntry) (hsplit : c.exceptionTable.toList = pre ++ x :: suf) (hpass : ∀ z ∈ pre, covers z pc = false) (hx : covers x pc = true) (h0 : x.catchType ≠ 0) (hlink : (Cond.classLink own x.catchType X).before args s = true) (hxl : X ∈ xL)
    (kk : ∀ q : Nat, G p l e R s m args below meth c nL A (cells + 1) (slots + 6) Q x.handlerPc lv [.ref q] Wp') : G p l e R s m args below meth c nL A cells slots Q pc lv stk Wp := by
  intro H locs ls hlv h hS T hT XX
  have hcast := va_Nw.use (A := args) rfl (hX.2.2.2.1 X hxl)
  rcases vx_runV S hM cw ⟨CX_blind, va_recv hK (va1 (hb H h)) (q0 := 0) hc rfl, fun U hU hWm => ⟨rfl, va_K.moved hWm.alike hK, by rw [hU]; exact hW H h, TX_go hX hAb hS hU hWm⟩⟩ (g := F0 m pc ls stk) rfl hn hlv.1 hst (lv_room hrm) hd hcs T hT XX with ⟨v, st₀, t, T', L, h0', X', hL, e1, e2, hq, stp⟩ | ⟨q, st₀, t, T', L, E0, ce, h0', X', hL, e1, e2, ⟨hE, hw2, hF⟩, hce, hcv, hcl, stp⟩
  · exact hq.elim
  · obtain ⟨k1, k2, k3⟩ := vx_keep h0' e1 hS (fun q _ hq => hA q hq) hA hL hF
    have hE2 : E0 = X := hE
    subst hE2
    have kx : vx_W p l e R s m args below meth c T'.heap (locs ++ L) (cells + 1) (slots + 6) Q (F0 m pc ls st) q :=
      vx_catch S.2.2.2.1 pre x suf hsplit (fun z hz => Or.inl (hpass z hz)) hx h0 hlink hcast (by rw [e1]; exact hce) hcv hcl (kk q T'.heap (locs ++ L) ls hlv (hW2 H T'.heap h (e1 ▸ hw2) k1 k2) k3)
    obtain ⟨t2, a1, b1⟩ := kx T' rfl X'
    exact ⟨t2, stp.trans a1, b1⟩
theorem g_callSU (S : CallFix p m c cc nL s args Ts own) (hK : KC E s) (hX : TX bs s) (hO : OA s) (hAb : ∀ q, A q → bs ≤ q) (hM : Met l y ws rm (CU E bs As W1) (QW ov W2 A1) mc ms A1) (cw : vx_CSW R s args own index y bytes maxL ret hh ws rm mc ms n) (hst : stk = As.reverse ++ st) (hst2 : ov.toList ++ st = stk') (hn : As.length = n) (hrm : (st.map fun v => v.category).sum ≤ 8) (hcs : cells + mc ≤ R.cells ∧ slots + ms ≤ R.slots) (hA : ∀ q, A1 q → A q) (hW : ∀ H, Wp H → W1 H) (hW2 : ∀ H H', Wp H → W2 H' → H.size ≤ H'.size → (∀ q : Nat, q < H.size → ¬ A1 q → H'[q]? = H[q]?) → Wp' H') (hd : decode cc pc = .ok (.invokestatic index, 3)) (kk : G p l e R s m args below meth c nL A (cells + mc) (slots + ms) Q (pc + 3) lv stk' Wp') : G p l e R s m args below meth c nL A cells slots Q pc lv stk Wp := by
  intro H locs ls hl h hS T hT X
  obtain ⟨v, st₀, t, T', L, h0, X', hL, e1, e2, ⟨hv, hw2, hF⟩, stp⟩ := vx_runSW (H := H) (g := F0 m pc ls stk) (rest := st) S hM cw ⟨CU_blind, fun U hU hWm => ⟨rfl, va_K.moved hWm.alike hK, by rw [hU]; exact hW H h, TX_go hX hAb hS hU hWm, OA.moved hWm.alike hO⟩⟩ rfl hn hl.1 hst (lv_room hrm) hd hcs T hT X
  cases hv
  obtain ⟨k1, k2, k3⟩ := vx_keep h0 e1 hS (fun q _ hq => hA q hq) hA hL hF
  obtain ⟨t2, a1, b1⟩ := kk T'.heap (locs ++ L) ls hl (hW2 H T'.heap h (e1 ▸ hw2) k1 k2) k3 T' rfl X'
  refine ⟨t2, stp t2 ?_, b1⟩
  rw [← hst2] at a1
  exact a1
theorem g_callSV (S : CallFix p m c cc nL s args Ts own) (hK : KC E s) (hX : TX bs s) (hO : OA s) (hAb : ∀ q, A q → bs ≤ q) (hM : Met l y ws rm (CU E bs As W1) (QW ov W2 A1) mc ms A1) (cw : CallB R s args own index y bytes maxL ret ws rm mc ms n ∧ (Cond.static y).before args s = true) (hst : stk = As.reverse ++ st) (hst2 : ov.toList ++ st = stk') (hn : As.length = n) (hrm : (st.map fun v => v.category).sum ≤ 8) (hcs : cells + mc ≤ R.cells ∧ slots + ms ≤ R.slots) (hA : ∀ q, A1 q → A q) (hW : ∀ H, Wp H → W1 H) (hW2 : ∀ H H', Wp H → W2 H' → H.size ≤ H'.size → (∀ q : Nat, q < H.size → ¬ A1 q → H'[q]? = H[q]?) → Wp' H') (hd : decode cc pc = .ok (.invokestatic index, 3)) (kk : G p l e R s m args below meth c nL A (cells + mc) (slots + ms) Q (pc + 3) lv stk' Wp') : G p l e R s m args below meth c nL A cells slots Q pc lv stk Wp := by
  intro H locs ls hl h hS T hT X
  obtain ⟨v, st₀, t, T', L, h0, X', hL, e1, e2, ⟨hv, hw2, hF⟩, stp⟩ := va_runS (H := H) (g := F0 m pc ls stk) (rest := st) S hM cw ⟨CU_blind, fun U hU hWm => ⟨rfl, va_K.moved hWm.alike hK, by rw [hU]; exact hW H h, TX_go hX hAb hS hU hWm, OA.moved hWm.alike hO⟩⟩ rfl hn hl.1 hst (lv_room hrm) hd hcs T hT X
  cases hv
  obtain ⟨k1, k2, k3⟩ := vx_keep h0 e1 hS (fun q _ hq => hA q hq) hA hL hF
  obtain ⟨t2, a1, b1⟩ := kk T'.heap (locs ++ L) ls hl (hW2 H T'.heap h (e1 ▸ hw2) k1 k2) k3 T' rfl X'
  refine ⟨t2, stp t2 ?_, b1⟩
  rw [← hst2] at a1
  exact a1
/-- a switch: within, and without -/
theorem g_swI (S : CallFix p m c cc nL s args Ts own) {v dflt lo hi off : Int} {offs : Array Int} {len tgt k : Nat} (hd : decode cc pc = .ok (.tableswitch dflt lo hi offs, len)) (hr : -2147483648 ≤ v ∧ v ≤ 2147483647) (h1 : lo ≤ v) (h2 : v ≤ hi) (hk : (v - lo).toNat = k) (ho : offs[k]? = some off) (ht : (pc : Int) + off = (tgt : Int)) (kk : G p l e R s m args below meth c nL A cells slots Q tgt lv st Wp) : G p l e R s m args below meth c nL A cells slots Q pc lv (.int (iI v) :: st) Wp :=
  fun H locs ls hl h hS => lv_tableIn S.1 S.2.1 hd (by rw [iI_t hr]; omega) (by rw [iI_t hr]; omega) (by rw [iI_t hr, hk]; exact ho) ht (kk H locs ls hl h hS)
theorem g_swO (S : CallFix p m c cc nL s args Ts own) {v dflt lo hi : Int} {offs : Array Int} {len tgt : Nat} (hd : decode cc pc = .ok (.tableswitch dflt lo hi offs, len)) (hr : -2147483648 ≤ v ∧ v ≤ 2147483647) (h1 : v < lo ∨ hi < v) (ht : (pc : Int) + dflt = (tgt : Int)) (kk : G p l e R s m args below meth c nL A cells slots Q tgt lv st Wp) : G p l e R s m args below meth c nL A cells slots Q pc lv (.int (iI v) :: st) Wp :=
  fun H locs ls hl h hS => lv_tableOut S.1 S.2.1 hd (by rw [iI_t hr]; exact h1) ht (kk H locs ls hl h hS)
end GU
/-! act: what it does -/
theorem CA.lt {E : EN} {ad : Int → Nat} {sp : Int → SpT} {se : Int → Int} {al : Int → Nat} {n pg : Int} {H : Heap} (h : CA E ad sp se al n pg H) {q : Nat} (hq : AX ad q) : q < H.size := by
  obtain ⟨x, hx, h⟩ := h
  obtain ⟨k, k0, k1, k2⟩ := hq
  rw [k2]; exact ca_lt h ⟨k0, k1⟩
theorem RW.push {E : EN} {b a c : Nat} {g : SpT} {r : Int → Nat} {f l : Int} {H : Heap} (h : RW E b g r H) (hv : vI E a 2 (pr f l) H) (hc : vR E 3 c (g.1 + 1) (upI r g.1 a) H) : RW E c (apn g f l) (upI r g.1 a) H := by
  refine ⟨hc, fun k h0 h1 => ?_⟩
  have h1 : k < g.1 + 1 := h1
  show vI E (upI r g.1 a k) 2 (pr (upI g.2.1 g.1 f k) (upI g.2.2 g.1 l k)) H
  by_cases e : k = g.1
  · subst e; rw [upI_s, upI_s, upI_s]; exact hv
  · rw [upI_n _ _ e, upI_n _ _ e, upI_n _ _ e]
    exact h.2 k h0 (by omega)
theorem apn_cov {g : SpT} {f l : Int} (h0 : 0 ≤ g.1) (q : Int) : cov (apn g f l) q ↔ cov g q ∨ (f ≤ q ∧ q ≤ l) := by
  constructor
  · rintro ⟨k, k0, k1, k2, k3⟩
    have k1 : k < g.1 + 1 := k1
    have k2 : upI g.2.1 g.1 f k ≤ q := k2
    have k3 : q ≤ upI g.2.2 g.1 l k := k3
    by_cases e : k = g.1
    · subst e; rw [upI_s] at k2 k3; exact Or.inr ⟨k2, k3⟩
    · rw [upI_n _ _ e] at k2 k3; exact Or.inl ⟨k, k0, by omega, k2, k3⟩
  · rintro (⟨k, k0, k1, k2, k3⟩ | ⟨z1, z2⟩)
    · refine ⟨k, k0, by show k < g.1 + 1; omega, ?_, ?_⟩
      · show upI g.2.1 g.1 f k ≤ q; rw [upI_n _ _ (by omega)]; exact k2
      · show q ≤ upI g.2.2 g.1 l k; rw [upI_n _ _ (by omega)]; exact k3
    · refine ⟨g.1, h0, by show g.1 < g.1 + 1; omega, ?_, ?_⟩
      · show upI g.2.1 g.1 f g.1 ≤ q; rw [upI_s]; exact z1
      · show q ≤ upI g.2.2 g.1 l g.1; rw [upI_s]; exact z2
theorem apn_rows {g : SpT} {f l pg : Int} (hv : VL g pg) (hf : 1 ≤ f ∧ f ≤ l ∧ l ≤ pg) : ∀ k : Int, 0 ≤ k → k < (apn g f l).1 → 1 ≤ (apn g f l).2.1 k ∧ (apn g f l).2.1 k ≤ (apn g f l).2.2 k ∧ (apn g f l).2.2 k ≤ pg := by
  intro k k0 k1
  have k1 : k < g.1 + 1 := k1
  show 1 ≤ upI g.2.1 g.1 f k ∧ upI g.2.1 g.1 f k ≤ upI g.2.2 g.1 l k ∧ upI g.2.2 g.1 l k ≤ pg
  by_cases e : k = g.1
  · subst e; rw [upI_s, upI_s]; exact hf
  · rw [upI_n _ _ e, upI_n _ _ e]; exact hv.2.2.1 k k0 (by omega)
/-- the law's index and the class, the same -/
def JS (E : EN) (ad : Int → Nat) (zc sm : Nat) (n0 : Int) (H : Heap) : Prop := ∃ (S : SA) (sp : Int → SpT) (se : Int → Int) (al : Int → Nat) (n pg : Int), (JV sp se al n pg ∧ AL2 S al n ∧ n0 ≤ n) ∧ va_at E.1 vwCl (sm, .inr (2, [.int (iI pg), .ref (s3 S), .ref (s1 S), .ref (s2 S)])) H ∧ SX E zc sm S sp se n H ∧ CA E ad sp se al n pg H
theorem al2_sd {S S1 : SA} {al : Int → Nat} {n : Int} (h : AL2 S al n) (hs : SD S S1) : AL2 S1 al n := by
  intro u u0 u1
  have w := h u u0 u1
  rw [hs.2.2.2.2.1, hs.2.2.2.2.2]
  exact w
theorem al2_add {S S1 : SA} {al : Int → Nat} {n : Int} (h : AL2 S al n) (hz : al n = 0) (hm : sM S1 = upI (sM S) n 0 ∧ sV S1 = upI (sV S) n (fun _ => 0)) : AL2 S1 al (n + 1) := by
  intro u u0 u1
  rw [hm.1, hm.2]
  by_cases e : u = n
  · subst e
    rw [upI_s, upI_s, hz]
    exact ⟨by rw [show pop 0 24 = 0 by decide]; rfl, fun j k j0 jk k1 => by omega, fun k k0 k1 => by omega, fun i i0 => ⟨fun z => by simp at z, fun ⟨k, k0, k1, _⟩ => by omega⟩⟩
  · rw [upI_n _ _ e, upI_n _ _ e]
    have w := h u u0 (by omega)
    exact ⟨w.1, w.2.1, fun k k0 k1 => by have := w.2.2.1 k k0 k1; omega, w.2.2.2⟩
/-- numbers of a row without one of them -/
def FLT (m : Int) (v : Int → Int) (o i m1 : Int) (v1 : Int → Int) : Prop := (0 ≤ m1 ∧ m1 ≤ i) ∧ (∀ j k : Int, 0 ≤ j → j < k → k < m1 → v1 j ≠ v1 k) ∧ (∀ x : Int, (∃ k : Int, 0 ≤ k ∧ k < m1 ∧ v1 k = x) ↔ (x ≠ o ∧ ∃ k : Int, 0 ≤ k ∧ k < i ∧ v k = x)) ∧ ((∀ k : Int, 0 ≤ k → k < i → v k ≠ o) → m1 = i) ∧ (∀ k : Int, 0 ≤ k → k < i → v k = o → m1 = i - 1)
theorem flt_0 {m o : Int} {v v1 : Int → Int} : FLT m v o 0 0 v1 :=
  ⟨by omega, fun j k _ _ z => by omega, fun x => ⟨fun ⟨k, k0, k1, _⟩ => by omega, fun ⟨_, k, k0, k1, _⟩ => by omega⟩, fun _ => rfl, fun k k0 k1 => by omega⟩
section FLTs
variable {m o i m1 : Int} {v v1 : Int → Int}
theorem flt_n (h : FLT m v o i m1 v1) (hd : ∀ j k : Int, 0 ≤ j → j < k → k < m → v j ≠ v k) (hi : 0 ≤ i ∧ i < m) (c : v i ≠ o) : FLT m v o (i + 1) (m1 + 1) (upI v1 m1 (v i)) := by
  obtain ⟨h1, h2, h3, h4, h5⟩ := h
  refine ⟨by omega, fun j k j0 jk k1 => ?_, fun x => ?_, fun z => by rw [h4 (fun k k0 k1 => z k k0 (by omega))], fun k k0 k1 z => ?_⟩
  · by_cases e : k = m1
    · subst e
      rw [upI_s, upI_n _ _ (by omega)]
      intro z
      obtain ⟨-, q, q0, q1, q2⟩ := (h3 (v1 j)).mp ⟨j, j0, jk, rfl⟩
      exact hd q i q0 q1 hi.2 (q2.trans z)
    · rw [upI_n _ _ e, upI_n _ _ (by omega)]
      exact h2 j k j0 jk (by omega)
  · constructor
    · rintro ⟨k, k0, k1, k2⟩
      by_cases e : k = m1
      · subst e; rw [upI_s] at k2
        exact ⟨by rw [← k2]; exact c, i, hi.1, by omega, k2⟩
      · rw [upI_n _ _ e] at k2
        obtain ⟨a, q, q0, q1, q2⟩ := (h3 x).mp ⟨k, k0, by omega, k2⟩
        exact ⟨a, q, q0, by omega, q2⟩
    · rintro ⟨a, q, q0, q1, q2⟩
      by_cases e : q = i
      · subst e
        exact ⟨m1, h1.1, by omega, by rw [upI_s]; exact q2⟩
      · obtain ⟨k, k0, k1, k2⟩ := (h3 x).mpr ⟨a, q, q0, by omega, q2⟩
        exact ⟨k, k0, by omega, by rw [upI_n _ _ (by omega)]; exact k2⟩
  · by_cases e : k = i
    · subst e; exact absurd z c
    · rw [h5 k k0 (by omega) z]; omega
theorem flt_y (h : FLT m v o i m1 v1) (hd : ∀ j k : Int, 0 ≤ j → j < k → k < m → v j ≠ v k) (hi : 0 ≤ i ∧ i < m) (c : v i = o) : FLT m v o (i + 1) m1 v1 := by
  obtain ⟨h1, h2, h3, h4, h5⟩ := h
  have hno : ∀ k : Int, 0 ≤ k → k < i → v k ≠ o := fun k k0 k1 z => hd k i k0 k1 hi.2 (z.trans c.symm)
  have e1 := h4 hno
  refine ⟨by omega, h2, fun x => ?_, fun z => absurd c (z i hi.1 (by omega)), fun k k0 k1 z => by omega⟩
  rw [h3 x]
  constructor
  · rintro ⟨a, q, q0, q1, q2⟩
    exact ⟨a, q, q0, by omega, q2⟩
  · rintro ⟨a, q, q0, q1, q2⟩
    refine ⟨a, q, q0, ?_, q2⟩
    apply Classical.byContradiction
    intro z
    have e : q = i := by omega
    subst e
    exact a (q2.symm.trans c)
end FLTs
/-- a see also turned: the new row and the new mask -/
theorem al2_turn {S S1 : SA} {al : Int → Nat} {n u o m2 : Int} {v2 : Int → Int} (h : AL2 S al n) (hn : n ≤ 24) (hu : 0 ≤ u ∧ u < n) (ho : 0 ≤ o ∧ o < n)
    (hm : m2 = ((pop (al u ^^^ 2 ^ o.toNat) 24 : Nat) : Int)) (hd : ∀ j k : Int, 0 ≤ j → j < k → k < m2 → v2 j ≠ v2 k) (hx : ∀ x : Int, (∃ k : Int, 0 ≤ k ∧ k < m2 ∧ v2 k = x) ↔ (if x = o then ¬ (al u).testBit o.toNat = true else ∃ k : Int, 0 ≤ k ∧ k < sM S u ∧ sV S u k = x))
    (hs : sM S1 = upI (sM S) u m2 ∧ sV S1 = upI (sV S) u v2) : AL2 S1 (upI al u (al u ^^^ 2 ^ o.toNat)) n := by
  intro w w0 w1
  rw [hs.1, hs.2]
  by_cases e : w = u
  · subst e
    rw [upI_s, upI_s, upI_s]
    have g := h w w0 w1
    refine ⟨hm, hd, fun k k0 k1 => ?_, fun i i0 => ?_⟩
    · have z := (hx (v2 k)).mp ⟨k, k0, k1, rfl⟩
      by_cases c : v2 k = o
      · rw [c]; exact ho
      · rw [if_neg c] at z
        obtain ⟨q, q0, q1, q2⟩ := z
        rw [← q2]; exact g.2.2.1 q q0 q1
    · rw [hx i, xor_bit]
      by_cases c : i = o
      · rw [if_pos c, if_pos (by rw [c]), c]; simp
      · rw [if_neg c, if_neg (by omega)]; exact g.2.2.2 i i0
  · rw [upI_n _ _ e, upI_n _ _ e, upI_n _ _ e]
    exact h w w0 w1
theorem turn_out {S : SA} {al : Int → Nat} {n u o m1 : Int} {v1 : Int → Int} (h : AL2 S al n) (hu : 0 ≤ u ∧ u < n) (ho : 0 ≤ o ∧ o < 24) (hF : FLT (sM S u) (sV S u) o (sM S u) m1 v1) (c : m1 ≠ sM S u) : m1 = ((pop (al u ^^^ 2 ^ o.toNat) 24 : Nat) : Int) ∧ (∀ j k : Int, 0 ≤ j → j < k → k < m1 → v1 j ≠ v1 k) ∧ ∀ x : Int, (∃ k : Int, 0 ≤ k ∧ k < m1 ∧ v1 k = x) ↔ (if x = o then ¬ (al u).testBit o.toNat = true else ∃ k : Int, 0 ≤ k ∧ k < sM S u ∧ sV S u k = x) := by
  obtain ⟨h1, h2, h3, h4, h5⟩ := hF
  have g := h u hu.1 hu.2
  have hin : ∃ k : Int, 0 ≤ k ∧ k < sM S u ∧ sV S u k = o := by
    apply Classical.byContradiction
    intro z
    exact c (h4 (fun k k0 k1 w => z ⟨k, k0, k1, w⟩))
  have hb := (g.2.2.2 o ho.1).mpr hin
  obtain ⟨k, k0, k1, k2⟩ := hin
  have e := h5 k k0 k1 k2
  have px := ((pop_xor (al u) o.toNat 24).2 (by omega)).1 hb
  refine ⟨by have := g.1; omega, h2, fun x => ?_⟩
  rw [h3 x]
  by_cases c2 : x = o
  · rw [if_pos c2]
    exact ⟨fun z => absurd c2 z.1, fun z => absurd hb z⟩
  · rw [if_neg c2]
    exact ⟨fun z => z.2, fun z => ⟨c2, z⟩⟩
theorem turn_in {S : SA} {al : Int → Nat} {n u o m1 : Int} {v1 : Int → Int} (h : AL2 S al n) (hu : 0 ≤ u ∧ u < n) (ho : 0 ≤ o ∧ o < 24) (hF : FLT (sM S u) (sV S u) o (sM S u) m1 v1) (c : m1 = sM S u) : m1 + 1 = ((pop (al u ^^^ 2 ^ o.toNat) 24 : Nat) : Int) ∧ (∀ j k : Int, 0 ≤ j → j < k → k < m1 + 1 → upI v1 m1 o j ≠ upI v1 m1 o k) ∧ ∀ x : Int, (∃ k : Int, 0 ≤ k ∧ k < m1 + 1 ∧ upI v1 m1 o k = x) ↔ (if x = o then ¬ (al u).testBit o.toNat = true else ∃ k : Int, 0 ≤ k ∧ k < sM S u ∧ sV S u k = x) := by
  obtain ⟨h1, h2, h3, h4, h5⟩ := hF
  have g := h u hu.1 hu.2
  have hin : ¬ ∃ k : Int, 0 ≤ k ∧ k < sM S u ∧ sV S u k = o := by
    rintro ⟨k, k0, k1, k2⟩
    have e := h5 k k0 k1 k2
    omega
  have hb : ¬ (al u).testBit o.toNat = true := fun z => hin ((g.2.2.2 o ho.1).mp z)
  have px := ((pop_xor (al u) o.toNat 24).2 (by omega)).2 hb
  have hno : ∀ k : Int, 0 ≤ k → k < m1 → v1 k ≠ o := fun k k0 k1 z => ((h3 o).mp ⟨k, k0, k1, z⟩).1 rfl
  refine ⟨by have := g.1; omega, fun j k j0 jk k1 => ?_, fun x => ?_⟩
  · by_cases e : k = m1
    · subst e; rw [upI_s, upI_n _ _ (by omega)]; exact hno j j0 jk
    · rw [upI_n _ _ e, upI_n _ _ (by omega)]; exact h2 j k j0 jk (by omega)
  · by_cases c2 : x = o
    · rw [if_pos c2]
      exact ⟨fun _ => hb, fun _ => ⟨m1, h1.1, by omega, by rw [upI_s]; exact c2.symm⟩⟩
    · rw [if_neg c2]
      constructor
      · rintro ⟨k, k0, k1, k2⟩
        by_cases e : k = m1
        · subst e; rw [upI_s] at k2; exact absurd k2.symm c2
        · rw [upI_n _ _ e] at k2
          exact ((h3 x).mp ⟨k, k0, by omega, k2⟩).2
      · intro z
        obtain ⟨k, k0, k1, k2⟩ := (h3 x).mpr ⟨c2, z⟩
        exact ⟨k, k0, by omega, by rw [upI_n _ _ (by omega)]; exact k2⟩
theorem TG.n1 {zc sm : Nat} {S : SA} {sp : Int → SpT} {n : Int} (h : TG zc sm S sp n) : sm ≠ s1 S := fun e => by
  have w := h.2.2.2.1
  rw [← e, h.2.1] at w
  omega
theorem TG.n2 {zc sm : Nat} {S : SA} {sp : Int → SpT} {n : Int} (h : TG zc sm S sp n) : sm ≠ s2 S := fun e => by
  have w := h.2.2.2.2.1
  rw [← e, h.2.1] at w
  omega
theorem out_8 {sp hs : Int → SpT} {se : Int → Int} {al : Int → Nat} {n pg q : Int} (J : JV sp se al n pg) (hq : 1 ≤ q ∧ q ≤ pg) (h : ∀ i : Int, 0 ≤ i → i < n → VL (hs i) (pg - 1) ∧ ∀ r, cov (hs i) r ↔ cov (sp i) (if r < q then r else r + 1)) : ∀ i : Int, 0 ≤ i → i < n → (hs i).1 ≤ 8 := by
  intro i i0 i1
  have v := J.hsp i i0 i1
  have w := wpo_vl v.1 v.2 hq (fun _ => 0) (fun _ => 0)
  have g := h i i0 i1
  have u := (vl_uniq g.1 w.1 (fun r => (g.2 r).trans (w.2.2 r).symm)).1
  have := w.2.1
  omega
