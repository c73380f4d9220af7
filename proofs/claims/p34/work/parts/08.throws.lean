/-! WHAT IS THROWN: what a throw needs beside the words -/
def strL : List (Nat × String) := [(107, "the heading has 4 other see alsos"), (111, "no such page to put pages ahead of"), (114, "not 1 to 100 pages"), (116, "the book would have more than 300 pages"), (124, "the book has one page"), (167, "not a gap of 0 to 100 pages"), (214, "no such heading"), (217, "no such span"), (219, "no such page"), (221, "no such pages"), (223, "both headings are the same"), (225, "the heading has pages"), (227, "the heading would have more than 8 spans"), (45, "there are 24 headings"), (62, "the heading has a see")]
def xL : List String := ["java/lang/IllegalStateException", "java/lang/IndexOutOfBoundsException", "java/lang/IllegalArgumentException"]
def yL : List String := ["java/lang/RuntimeException", "java/lang/Exception", Bundle.tN]
abbrev nm3 : List String := ["java/lang/RuntimeException", "java/lang/Exception"]
def TX (bs : Nat) (U : State) : Prop :=
  vx_Zq Bundle.tN "UNASSIGNED_STACK" Bundle.steD (fun q => bs ≤ q) U U.heap ∧ vx_Zq Bundle.tN "SUPPRESSED_SENTINEL" Bundle.listD (fun q => bs ≤ q) U U.heap ∧ (∀ q ∈ strL, ∃ sa, vk_R RX1 q.1 q.2 sa U) ∧ (∀ X ∈ xL, va_Nw (.castable X X) U) ∧ ∀ Y ∈ yL, va_Nw (.declares (Bundle.initS Y)) U
theorem TX_go {bs : Nat} {A : Nat → Prop} {s U : State} {H : Heap} {locs : List Loc} (h : TX bs s) (hA : ∀ q, A q → bs ≤ q) (hS : va_S A s.heap H locs) (hU : U.heap = H) (hW : s.WarmedH U.vm) : TX bs U := by
  obtain ⟨h1, h2, h3, h4, h5⟩ := h
  have hk : ∀ a : Nat, a < s.heap.size → ¬ bs ≤ a → U.heap[a]? = s.heap[a]? := fun a ha hb => by rw [hU]; exact hS.2.1 a ha (fun z => hb (hA a z))
  exact ⟨vx_Zq.moved hW.alike (h1.kept hk), vx_Zq.moved hW.alike (h2.kept hk), fun q hq => by obtain ⟨sa, z⟩ := h3 q hq; exact ⟨sa, vk_R.warm hW z⟩, fun X hX => va_Nw.warmC hW (h4 X hX), fun Y hY => va_Nw.warmD hW (h5 Y hY)⟩
theorem TX_calling {bs : Nat} {U : State} {g : JFrame} {mk : MethodId} {a : Array Value} (h : TX bs U) : TX bs (U.calling g mk a) :=
  TX_go (A := fun _ => False) (locs := []) (U := U.calling g mk a) h (fun _ q => q.elim) va_S.rf rfl (State.WarmedH.refl U)
def CX (E : EN) (bs : Nat) (As : List Value) (Wp : Heap → Prop) : Array Value → State → Prop := va_Pc As (fun U => KC E U ∧ Wp U.heap ∧ TX bs U)
theorem CX_blind {E : EN} {bs : Nat} {As : List Value} {Wp : Heap → Prop} : FrameBlind (CX E bs As Wp) := by
  intro a U g mk h
  obtain ⟨h0, h1, h2, h3⟩ := h
  exact ⟨h0, va_K.moved (u := U) (U := U.calling g mk a) (Vm.Alike.refl U.vm) h1, h2, TX_calling h3⟩
def XW (X : String) (Wp : Heap → Prop) (A : Nat → Prop) : String → State → State → Prop := fun E0 st t => E0 = X ∧ Wp t.heap ∧ va_F A st t
abbrev QF : Array Value → State → Outcome → State → Prop := fun _ _ _ _ => False
section GX
variable {p : Program} {l : Launch} {e : Env} {R : Room} {s : State} {m : MethodId} {args : Array Value} {below : List Frame} {meth : Method} {c : Code} {nL : Nat} {A : Nat → Prop} {cells slots : Nat} {Q : State → Prop}
variable {cc : ByteArray} {Ts : List Cond} {own : String} {pc : Nat} {lv lv' : List (Nat × Value)} {st : List Value} {Wp Wp' : Heap → Prop} {E : EN} {bs : Nat}
theorem g_throw (S : CallFix p m c cc nL s args Ts own) (hl : l.stackTraces = false) (hlocks : meth.locks = false) (hno : ∀ x ∈ c.exceptionTable.toList, False) (hX : TX bs s) {cls text : String} {ik is ic : Nat} (hown : own = RX1) (hx1 : cls ∈ xL) (hfit : Bundle.fit cls = true) (htx : (is, text) ∈ strL)
    (hk : (Cond.classLink own ik cls).before args s = true) (hini : (Cond.initialized cls).before args s = true) (hgw : ∀ w ∈ (vx_atS own ic cls nm3).filter goodWord, w.before args s = true) (hbad : ∀ w ∈ (vx_atS own ic cls nm3).filter (fun w => !goodWord w), w ∈ [Cond.castable cls cls, .declares (Bundle.initS "java/lang/RuntimeException"), .declares (Bundle.initS "java/lang/Exception"), .declares (Bundle.initS Bundle.tN)])
    (hot : ∀ w ∈ Cond.classLink own ik cls :: Cond.initialized cls :: vx_atS own ic cls nm3, vx_ot w = true) (hA : ∀ q, A q → bs ≤ q) (hR : 5 < R.frames ∧ (st.map fun v => v.category).sum + 82 ≤ R.locals ∧ cells + 1 ≤ R.cells ∧ slots + 6 ≤ R.slots ∧ cells + 1 ≤ 1 ∧ slots + 6 ≤ 6)
    (d0 : decode cc pc = .ok (.new ik, 3)) (d3 : decode cc (pc + 3) = .ok (.dup, 1)) (d4 : decode cc (pc + 4) = .ok (.ldc is, 2)) (d6 : decode cc (pc + 6) = .ok (.invokespecial ic, 3)) (d9 : decode cc (pc + 9) = .ok (.athrow, 1))
    (hW : ∀ H H', Wp H → H.size ≤ H'.size → (∀ q : Nat, q < H.size → H'[q]? = H[q]?) → Wp' H') : G p l e R s m args below meth c nL A cells slots (vx_MQ below QF (XW cls Wp' A) args s 1 6 A) pc lv st Wp := by
  intro H locs ls hlv h hS
  obtain ⟨sa, hstr⟩ := hX.2.2.1 _ htx
  have hcast := va_Nw.use (A := args) rfl (hX.2.2.2.1 cls hx1)
  have hdec : ∀ Y ∈ yL, (Cond.declares (Bundle.initS Y)).before args s = true := fun Y hY => va_Nw.use (A := args) rfl (hX.2.2.2.2 Y hY)
  have hat : ∀ w ∈ vx_atS own ic cls nm3, w.before args s = true := vx_hat hgw hbad (vx_c hcast (vx_c (hdec _ (by simp [yL])) (vx_c (hdec _ (by simp [yL])) (vx_c (hdec _ (by simp [yL])) vx_n))))
  refine vx_throwS (A := A) S.1 S.2.1 hl S.2.2.2.1 hfit (by decide) hk hini (by rw [hown]; exact hstr) hat hot (hX.1.narrow hA) (hX.2.1.narrow hA) hS (hlv.1.trans S.2.2.1.symm) d0 d3 d4 d6 d9 (fun x hx => (hno x hx).elim) hR.1 hR.2.1 hR.2.2.1 hR.2.2.2.1 hlocks ?_ hS.2.2 hR.2.2.2.2.1 hR.2.2.2.2.2
  intro t _ h1 h2
  exact ⟨rfl, hW H t.heap h h1 h2, Nat.le_trans hS.1 h1, fun q q1 q2 => (h2 q (Nat.lt_of_lt_of_le q1 hS.1)).trans (hS.2.1 q q1 q2)⟩
variable {y : MethodName} {bytes : ByteArray} {maxL n index mc ms : Nat} {ret : Option FieldType} {ws : List Cond} {rm : Room} {As stk stk' : List Value} {b ci : Nat} {fs : List Value} {r : vw_C} {W1 W2 : Heap → Prop} {A1 : Nat → Prop} {X : String}
theorem g_callVX (S : CallFix p m c cc nL s args Ts own) (hK : KC E s) (hlocks : meth.locks = false) (hno : ∀ x ∈ c.exceptionTable.toList, False) (hX : TX bs s) (hM : vx_Met l y ws rm (CX E bs (.ref b :: As) W1) QF (XW X W2 A1) 1 6 A1) (cw : CallW R s args own r.1 index y bytes maxL ret ws rm 1 6 n) (hc : vwCl[ci]? = some r) (hst : stk = As.reverse ++ .ref b :: st) (hn : As.length = n) (hrm : (st.map fun v => v.category).sum ≤ 8) (hcs : cells + 1 ≤ R.cells ∧ slots + 6 ≤ R.slots ∧ cells + 1 ≤ 1 ∧ slots + 6 ≤ 6) (hA : ∀ q, A1 q → A q) (hAb : ∀ q, A q → bs ≤ q) (hb : ∀ H, Wp H → va_at E.1 vwCl (b, .inr (ci, fs)) H) (hW : ∀ H, Wp H → W1 H) (hW2 : ∀ H H', Wp H → W2 H' → H.size ≤ H'.size → (∀ q : Nat, q < H.size → ¬ A1 q → H'[q]? = H[q]?) → Wp' H') (hd : decode cc pc = .ok (.invokevirtual index, 3)) : G p l e R s m args below meth c nL A cells slots (vx_MQ below QF (XW X Wp' A) args s 1 6 A) pc lv stk Wp := by
  intro H locs ls hlv h hS T hT XX
  rcases vx_runV S hM cw ⟨CX_blind, va_recv hK (va1 (hb H h)) (q0 := 0) hc rfl, fun U hU hWm => ⟨rfl, va_K.moved hWm.alike hK, by rw [hU]; exact hW H h, TX_go hX hAb hS hU hWm⟩⟩ (g := F0 m pc ls stk) rfl hn hlv.1 hst (lv_room hrm) hd ⟨hcs.1, hcs.2.1⟩ T hT XX with ⟨v, st₀, t, T', L, h0, X', hL, e1, e2, hq, stp⟩ | ⟨q, st₀, t, T', L, E0, ce, h0, X', hL, e1, e2, ⟨hE, hw2, hF⟩, hce, hcv, hcl, stp⟩
  · exact hq.elim
  · obtain ⟨k1, k2, k3⟩ := vx_keep h0 e1 hS (fun q _ hq => hA q hq) hA hL hF
    have kx : vx_W p l e R s m args below meth c T'.heap (locs ++ L) (cells + 1) (slots + 6) (vx_MQ below QF (XW X Wp' A) args s 1 6 A) (F0 m pc ls st) q :=
      vx_out (fun x hx => (hno x hx).elim) hlocks (by rw [e1]; exact hce) hcv hcl (fun t9 ht9 _ => ⟨hE, by rw [ht9]; exact hW2 H T'.heap h (e1 ▸ hw2) k1 k2, k3.F ht9⟩) k3.2.2 hcs.2.2.1 hcs.2.2.2
    obtain ⟨t2, a1, b1⟩ := kx T' rfl X'
    exact ⟨t2, stp.trans a1, b1⟩
end GX
/-- a contract of a method that throws, out of a walk -/
theorem g_metX {l : Launch} {y : MethodName} {ws ws' : List Cond} {rm : Room} {E : EN} {bs : Nat} {As : List Value} {W1 W2 : Heap → Prop} {X : String} {A : Nat → Prop} {cc : ByteArray} {maxL : Nat} {ret : Option FieldType} {lv : List (Nat × Value)}
    (hy : plainName y.cls = true) (hw : ws = Cond.code y cc maxL ret :: ws') (hlen : (lg_sl As).length ≤ maxL) (hlv : lv_args 0 As = lv)
    (body : ∀ (p : Program) (e : Env) (s : State) (m : MethodId) (args : Array Value) (below : List Frame) (meth : Method) (c : Code), CallFix p m c cc maxL s args ws y.cls → KC E s → TX bs s → meth.locks = false → (∀ x ∈ c.exceptionTable.toList, False) → G p l e rm s m args below meth c maxL A 0 0 (vx_MQ below QF (XW X W2 A) args s 1 6 A) 0 lv [] W1) :
    vx_Met l y ws rm (CX E bs As W1) QF (XW X W2 A) 1 6 A := by
  refine vx_ofW (cc := cc) (maxL := maxL) (ret := ret) hy hw ?_
  intro p e s m args below meth c s₁ B hml hno hv
  obtain ⟨rfl, hK, hW1, hX⟩ := hv
  have hl := lv_entry As hlen
  rw [lg_entry_eq]
  subst hlv
  exact body p e s m _ below meth c ⟨B.exec, B.bytes, hml, findClass_of_methodNamed B.named, atoms_spec (ws := ws) B.pre⟩ hK hX B.notSynchronized hno s.heap [] _ hl hW1 va_S.rf
theorem bad47 : ∀ w ∈ (vx_atS RX1 47 "java/lang/IllegalStateException" nm3).filter (fun w => !goodWord w), w ∈ [Cond.castable "java/lang/IllegalStateException" "java/lang/IllegalStateException", .declares (Bundle.initS "java/lang/RuntimeException"), .declares (Bundle.initS "java/lang/Exception"), .declares (Bundle.initS Bundle.tN)] := by decide +kernel
theorem bad216 : ∀ w ∈ (vx_atS RX1 216 "java/lang/IndexOutOfBoundsException" nm3).filter (fun w => !goodWord w), w ∈ [Cond.castable "java/lang/IndexOutOfBoundsException" "java/lang/IndexOutOfBoundsException", .declares (Bundle.initS "java/lang/RuntimeException"), .declares (Bundle.initS "java/lang/Exception"), .declares (Bundle.initS Bundle.tN)] := by decide +kernel
theorem bad113 : ∀ w ∈ (vx_atS RX1 113 "java/lang/IllegalArgumentException" nm3).filter (fun w => !goodWord w), w ∈ [Cond.castable "java/lang/IllegalArgumentException" "java/lang/IllegalArgumentException", .declares (Bundle.initS "java/lang/RuntimeException"), .declares (Bundle.initS "java/lang/Exception"), .declares (Bundle.initS Bundle.tN)] := by decide +kernel
theorem ot47 : ∀ w ∈ Cond.classLink RX1 43 "java/lang/IllegalStateException" :: Cond.initialized "java/lang/IllegalStateException" :: vx_atS RX1 47 "java/lang/IllegalStateException" nm3, vx_ot w = true := by decide +kernel
theorem ot216 : ∀ w ∈ Cond.classLink RX1 212 "java/lang/IndexOutOfBoundsException" :: Cond.initialized "java/lang/IndexOutOfBoundsException" :: vx_atS RX1 216 "java/lang/IndexOutOfBoundsException" nm3, vx_ot w = true := by decide +kernel
theorem ot113 : ∀ w ∈ Cond.classLink RX1 109 "java/lang/IllegalArgumentException" :: Cond.initialized "java/lang/IllegalArgumentException" :: vx_atS RX1 113 "java/lang/IllegalArgumentException" nm3, vx_ot w = true := by decide +kernel
theorem cw_lt {E : EN} {ad : Int → Nat} {sp : Int → SpT} {se : Int → Int} {al : Int → Nat} {ta : Int → Int} {n pg : Int} {H : Heap} (h : CW E ad sp se al ta n pg H) {k : Int} (hk : 0 ≤ k ∧ k < 86) : ad k < H.size := by
  by_cases c : k < 5
  · rcases (show k = 0 ∨ k = 1 ∨ k = 2 ∨ k = 3 ∨ k = 4 by omega) with rfl | rfl | rfl | rfl | rfl
    · exact (cw_x h).lt
    · exact (cw_b h).lt
    · exact (cw_se h).lt
    · exact (cw_al h).lt
    · exact (cw_ta h).lt
  · obtain ⟨i, r, hi, hr, rfl⟩ : ∃ i r : Int, (0 ≤ i ∧ i < 27) ∧ (r = 5 ∨ r = 6 ∨ r = 7) ∧ k = r + 3 * i := ⟨(k - 5) / 3, 5 + (k - 5) % 3, by omega, by omega, by omega⟩
    rcases hr with rfl | rfl | rfl
    · exact (cw_o h hi rfl).lt
    · exact (cw_f h hi rfl).lt
    · exact (cw_l h hi rfl).lt
theorem cw_grow {E : EN} {ad : Int → Nat} {sp : Int → SpT} {se : Int → Int} {al : Int → Nat} {ta : Int → Int} {n pg : Int} {H H' : Heap} (h : CW E ad sp se al ta n pg H) (_ : H.size ≤ H'.size) (hq : ∀ q : Nat, q < H.size → H'[q]? = H[q]?) : CW E ad sp se al ta n pg H' := cw_kept h (fun _ hk => hq _ (cw_lt h hk))
