/-! THE CONSTRUCTOR OF BookIndex -/
abbrev aQ (cA : ClassId) (n : Nat) (f : Nat → Option Nat) : va_E := .inl (cA, n, .inr (.inr (.inr (.inr f))))
theorem arrV_same {cI : ClassId} {N : Nat} {f g : Nat → Value} (h : ∀ j, j < N → f j = g j) : arrV cI N f = arrV cI N g := by
  unfold arrV
  congr 2
  funext j
  exact h j.val j.isLt
def CK (E : EN) (As : List Value) (Wp : Heap → Prop) : Array Value → State → Prop := va_Pc As (fun U => KC E U ∧ Wp U.heap ∧ va_AO RX0 U)
theorem CK_blind {E : EN} {As : List Value} {Wp : Heap → Prop} : FrameBlind (CK E As Wp) := by
  intro a U g mk h
  obtain ⟨h0, h1, h2, h3⟩ := h
  exact ⟨h0, va_K.moved (u := U) (U := U.calling g mk a) (Vm.Alike.refl U.vm) h1, h2, va_AO.moved (u := U) (U := U.calling g mk a) (Vm.Alike.refl U.vm) h3⟩
theorem g_metK {l : Launch} {y : MethodName} {ws ws' : List Cond} {rm : Room} {E : EN} {As : List Value} {W1 W2 : Heap → Prop} {ov : Option Value} {mc ms : Nat} {A : Nat → Prop} {cc : ByteArray} {maxL : Nat} {ret : Option FieldType} {lv : List (Nat × Value)}
    (hy : plainName y.cls = true) (hw : ws = Cond.code y cc maxL ret :: ws') (hlen : (lg_sl As).length ≤ maxL) (hlv : lv_args 0 As = lv)
    (body : ∀ (p : Program) (e : Env) (s : State) (m : MethodId) (args : Array Value) (below : List Frame) (meth : Method) (c : Code), CallFix p m c cc maxL s args ws y.cls → KC E s → va_AO RX0 s → meth.sig.returnType = ret → meth.locks = false → (y.name = "<init>" → meth.name = "<init>") → G p l e rm s m args below meth c maxL A 0 0 (MQ below (QW ov W2 A) args s mc ms A) 0 lv [] W1) :
    Met l y ws rm (CK E As W1) (QW ov W2 A) mc ms A := by
  refine Met.ofW (cc := cc) (maxL := maxL) (ret := ret) hy hw ?_
  intro p e s m args below meth c s₁ B hml hv
  obtain ⟨rfl, hK, hW1, hO⟩ := hv
  have hl := lv_entry As hlen
  rw [lg_entry_eq]
  subst hlv
  exact body p e s m _ below meth c ⟨B.exec, B.bytes, hml, findClass_of_methodNamed B.named, atoms_spec (ws := ws) B.pre⟩ hK hO B.returns B.notSynchronized (fun hn => (name_of_methodNamed B.named B.method).1.trans hn) s.heap [] _ hl hW1 va_S.rf
section GB
variable {p : Program} {l : Launch} {e : Env} {R : Room} {s : State} {m : MethodId} {args : Array Value} {below : List Frame} {meth : Method} {c : Code} {nL : Nat} {A : Nat → Prop} {cells slots : Nat} {Q : State → Prop}
variable {cc : ByteArray} {Ts : List Cond} {own : String} {pc : Nat} {lv lv' : List (Nat × Value)} {st : List Value} {Wp Wp' : Heap → Prop} {E : EN}
theorem g_newQK (S : CallFix p m c cc nL s args Ts own) (hK : KC E s) (hO : va_AO RX0 s) {n a idx : Nat} (hcl : (Cond.classLink own idx RX0).before args s = true) (hn : n ≤ 1000) (hcs : cells + 1 ≤ R.cells ∧ slots + n ≤ R.slots) (hsz : ∀ H, Wp H → H.size = a)
    (hW : ∀ (H H' : Heap), Wp H → va_at E.1 vwCl (a, aQ (E.2 1) n (fun _ => none)) H' → H'.size = a + 1 → (∀ q : Nat, q < a → H'[q]? = H[q]?) → Wp' H') (hd : decode cc pc = .ok (.anewarray idx, 3))
    (kk : G p l e R s m args below meth c nL A (cells + 1) (slots + n) Q (pc + 3) lv (.ref a :: st) Wp') : G p l e R s m args below meth c nL A cells slots Q pc lv (.int (iI n) :: st) Wp := by
  intro H locs ls hl h hS
  have hz := hsz H h
  have en : (iI n).toNatClampNeg = n := by rw [iI_cl (by omega) (by omega)]; omega
  refine W.anew S.1 S.2.1 S.2.2.2.1 hcl (va_AO.use hO) rfl hd rfl ?_ ?_ hcs.1 ?_ fun cA kA comp f1 f2 f3 f4 => ?_
  · rw [← iI_0, iI_lt (by omega)]; omega
  · rw [en]; omega
  · rw [en]; exact hcs.2
  · rw [en]
    generalize hH1 : H.push ({ cls := cA, slots := Array.replicate n .null, vm := .none } : Cell) = H1
    have z1 : H1.size = H.size + 1 := by rw [← hH1, Array.size_push]
    have e1 : H1[H.size]? = some (arrV cA n (fun _ => .null)) := by rw [← hH1, Array.getElem?_push_size, ← arrV_new]
    have o1 : ∀ q : Nat, q < H.size → H1[q]? = H[q]? := fun q hq => by rw [← hH1, Array.getElem?_push, if_neg (Nat.ne_of_lt hq)]
    obtain ⟨kB, comp2, k1, k2, k3, k4⟩ := (hK.2 1 _ rfl).2
    have ec : cA = E.2 1 := Option.some.inj (f1.symm.trans k4)
    subst ec
    rw [hz] at z1 e1 o1 ⊢
    have h0 := hS.1
    refine kk H1 locs ls hl (hW H H1 h ?_ z1 o1) ⟨by omega, fun q q1 q2 => (o1 q (by omega)).trans (hS.2.1 q q1 q2), hS.2.2⟩
    show H1[a]? = some (vp_cell _ _)
    rw [vp_cell_q]
    exact e1
theorem g_qast (S : CallFix p m c cc nL s args Ts own) (hK : KC E s) {a n v : Nat} {vs : List Value} {f : Nat → Option Nat} {z : Int} (hw : ∀ H, Wp H → va_at E.1 vwCl (a, aQ (E.2 1) n f) H) (hv : ∀ H, Wp H → va_at E.1 vwCl (v, .inr (0, vs)) H) (hz : 0 ≤ z ∧ z < n) (hn : n ≤ 2147483647) (hA : A a)
    (hW : ∀ H H', Wp H → va_at E.1 vwCl (a, aQ (E.2 1) n (va_up f z.toNat (some v))) H' → H'.size = H.size → (∀ q : Nat, q ≠ a → H'[q]? = H[q]?) → Wp' H') (hd : decode cc pc = .ok (.aastore, 1))
    (kk : G p l e R s m args below meth c nL A cells slots Q (pc + 1) lv st Wp') : G p l e R s m args below meth c nL A cells slots Q pc lv (.ref v :: .int (iI z) :: .ref a :: st) Wp := by
  intro H locs ls hl h hS
  have hin := iI_in hz hn
  have ez := iI_cl hz.1 (show z ≤ 2147483647 by omega)
  have hlt : (iI z).toNatClampNeg < n := Nat.not_le.mp fun q => hin (Or.inr q)
  have h0 : ¬ iI z < 0 := fun q => hin (Or.inl q)
  obtain ⟨r', hr', cellV, g1, g2, g3, -⟩ := hv H h
  have hcls := (hK.1 0 _ rfl).2
  obtain ⟨kA, comp, k1, k2, k3, -⟩ := (hK.2 1 _ rfl).2
  have hcomp : comp = E.1.1 0 := Option.some.inj (k3.symm.trans hcls.1)
  subst hcomp
  obtain ⟨kC, hkC, -⟩ := hcls.2
  refine W.aast S.1 S.2.1 (hw H h) (fun q h => by cases h) (fun h => by cases h) k1 k2 rfl hkC ⟨h0, by show _ < (arrV _ _ _).slots.size; rw [arrV_size]; exact hlt⟩ g1 (fun q h => by rw [g3] at h; cases h) (by rw [g2]; exact hkC) (by rw [g2]; exact va_assign hcls) rfl rfl hd fun H1 e z1 oq => ?_
  refine kk H1 _ ls hl (hW H H1 h ?_ z1 oq) (hS.put z1 oq hA)
  show H1[a]? = some (vp_cell _ _)
  rw [e, ez, vp_cell_q, vp_cell_q, arrV_store]
  congr 2
  funext q
  by_cases hq : q = z.toNat
  · subst hq
    simp [updV, va_up, va_rf]
  · simp [updV, va_up, hq]
variable {y : MethodName} {bytes : ByteArray} {maxL n index mc ms : Nat} {ret : Option FieldType} {ws : List Cond} {rm : Room} {As stk stk' : List Value} {b ci : Nat} {fs : List Value} {r : vw_C} {ov : Option Value} {W1 W2 : Heap → Prop} {A1 : Nat → Prop}
theorem g_callIK (S : CallFix p m c cc nL s args Ts own) (hK : KC E s) (hO : va_AO RX0 s) (hM : Met l y ws rm (CK E (.ref b :: As) W1) (QW none W2 A1) mc ms A1) (cw : CallB R s args own index y bytes maxL none ws rm mc ms n ∧ y.name = "<init>" ∧ (Cond.instanceMethod y).before args s = true) (hst : stk = As.reverse ++ .ref b :: st) (hn : As.length = n) (hrm : (st.map fun v => v.category).sum ≤ 8) (hcs : cells + mc ≤ R.cells ∧ slots + ms ≤ R.slots) (hA : ∀ q, A1 q → A q) (hW : ∀ H, Wp H → W1 H) (hW2 : ∀ H H', Wp H → W2 H' → H.size ≤ H'.size → (∀ q : Nat, q < H.size → ¬ A1 q → H'[q]? = H[q]?) → Wp' H') (hd : decode cc pc = .ok (.invokespecial index, 3)) (kk : G p l e R s m args below meth c nL A (cells + mc) (slots + ms) Q (pc + 3) lv st Wp') : G p l e R s m args below meth c nL A cells slots Q pc lv stk Wp :=
  g_after (ov := none) (Qa := (Value.ref b :: As).toArray) (fun H locs ls hl h => va_runI S hM cw ⟨CK_blind, fun U hU hWm => ⟨rfl, va_K.moved hWm.alike hK, by rw [hU]; exact hW H h, va_AO.moved hWm.alike hO⟩⟩ rfl hn hl.1 hst (lv_room hrm) hd hcs) hA hW2 rfl kk
end GB
def fQ (a i : Nat) : Nat → Option Nat := fun k => if k < i then some (a + 2 + 3 * k) else none
theorem fQ_0 (a : Nat) : (fun _ => none) = fQ a 0 := by funext k; simp [fQ]
theorem fQ_s (a i : Nat) : va_up (fQ a i) i (some (a + 2 + 3 * i)) = fQ a (i + 1) := by
  funext k
  by_cases h : k = i
  · subst h; simp [va_up, fQ]
  · have e : (k < i + 1) ↔ (k < i) := by omega
    simp [va_up, fQ, h, e]
theorem SPA.kept {E : EN} {a : Nat} {H H' : Heap} (h : SPA E a H) (hq : ∀ q : Nat, a ≤ q → q < a + 3 → H'[q]? = H[q]?) : SPA E a H' :=
  ⟨h.1.kept (hq a (by omega) (by omega)), h.2.1.kept (hq (a + 1) (by omega) (by omega)), h.2.2.kept (hq (a + 2) (by omega) (by omega))⟩
/-- the row of Spans, i of them put in, j of them made -/
def BR (E : EN) (a i j : Nat) (H : Heap) : Prop := va_at E.1 vwCl (a + 1, aQ (E.2 1) 24 (fQ a i)) H ∧ ∀ k, k < j → SPA E (a + 2 + 3 * k) H
theorem BR.kept {E : EN} {a i j : Nat} {H H' : Heap} (h : BR E a i j H) (hq : ∀ q : Nat, a < q → q < a + 2 + 3 * j → H'[q]? = H[q]?) : BR E a i j H' :=
  ⟨h.1.kept (hq (a + 1) (by omega) (by omega)), fun k hk => (h.2 k hk).kept (fun q q1 q2 => hq q (by omega) (by omega))⟩
theorem BR.more {E : EN} {a i j : Nat} {H : Heap} (h : BR E a i j H) (hs : SPA E (a + 2 + 3 * j) H) : BR E a i (j + 1) H :=
  ⟨h.1, fun k hk => by
    by_cases e : k = j
    · subst e; exact hs
    · exact h.2 k (by omega)⟩
theorem BR.put {E : EN} {a i j : Nat} {H H' : Heap} (h : BR E a i j H) (hv : va_at E.1 vwCl (a + 1, aQ (E.2 1) 24 (va_up (fQ a i) i (some (a + 2 + 3 * i)))) H') (oq : ∀ q : Nat, q ≠ a + 1 → H'[q]? = H[q]?) : BR E a (i + 1) j H' :=
  ⟨by rw [← fQ_s]; exact hv, fun k hk => (h.2 k hk).kept (fun q q1 q2 => oq q (by omega))⟩
/-- where the cells of the index lie that the constructor makes at a -/
def aBk (a : Nat) : Int → Nat := fun k => a + (if k < 2 then k.toNat else if k < 5 then k.toNat + 72 else if k < 77 then k.toNat - 3 else k.toNat)
theorem aBk_inj (a : Nat) : INJ (aBk a) := by
  intro i j h0 h1 h2 h3 h4
  unfold aBk at h4
  split at h4 <;> split at h4 <;> (try split at h4) <;> (try split at h4) <;> (try split at h4) <;> (try split at h4) <;> omega

theorem sp_born : ∀ j, j < 3 → defaultValue (tyX0 j) = vp_V [.null, .null, .int (iI 0)] j := by
  intro j hj
  match j, hj with
  | 0, _ => rfl
  | 1, _ => rfl
  | 2, _ => rfl
theorem cw_born {E : EN} {a : Nat} {H : Heap} (h : va_at E.1 vwCl (a, .inr (1, [.ref (a + 1), .ref (a + 74), .ref (a + 75), .ref (a + 76), .ref (a + 77), .ref (a + 80), .ref (a + 83), .int (iI 0), .int (iI 100)])) H ∧ BR E a 24 24 H ∧ va_at E.1 vwCl (a + 74, aI (E.2 0) 24 (fun _ => 0)) H ∧ va_at E.1 vwCl (a + 75, aI (E.2 0) 24 (fun _ => 0)) H ∧ va_at E.1 vwCl (a + 76, aI (E.2 0) 302 (fun _ => 0)) H ∧ SPA E (a + 77) H ∧ SPA E (a + 80) H ∧ SPA E (a + 83) H) : CW E (aBk a) (fun _ => (0, (fun _ => 0), (fun _ => 0))) (fun _ => 0) (fun _ => 0) (fun _ => 0) 0 100 H := by
  obtain ⟨h0, h1, h2, h3, h4, h5, h6, h7⟩ := h
  have hsp : ∀ (i : Int) (b : Nat), SPA E b H → aBk a (5 + 3 * i) = b → aBk a (6 + 3 * i) = b + 1 → aBk a (7 + 3 * i) = b + 2 → va_at E.1 vwCl (aBk a (5 + 3 * i), .inr (0, [.ref (aBk a (6 + 3 * i)), .ref (aBk a (7 + 3 * i)), .int (iI 0)])) H ∧ va_at E.1 vwCl (aBk a (6 + 3 * i), aI (E.2 0) 16 (fun _ => 0)) H ∧ va_at E.1 vwCl (aBk a (7 + 3 * i), aI (E.2 0) 16 (fun _ => 0)) H := by
    intro i b hb e1 e2 e3
    rw [e1, e2, e3]
    exact hb
  refine ⟨h0, ?_, h2, h3, h4, fun i hi => ?_⟩
  · show H[a + 1]? = some (vp_cell _ _)
    have z : H[a + 1]? = some (vp_cell (E.2 1) (24, .inr (.inr (.inr (.inr (fQ a 24)))))) := h1.1
    rw [z, vp_cell_q, vp_cell_q]
    congr 1
  · by_cases hj : i < 24
    · refine hsp i (a + 2 + 3 * i.toNat) (h1.2 i.toNat (by omega)) ?_ ?_ ?_ <;> (unfold aBk; rw [if_neg (by omega), if_neg (by omega), if_pos (by omega)]; omega)
    · have hc : i = 24 ∨ i = 25 ∨ i = 26 := by omega
      rcases hc with e | e | e
      · subst e; exact hsp 24 (a + 77) h5 rfl rfl rfl
      · subst e; exact hsp 25 (a + 80) h6 rfl rfl rfl
      · subst e; exact hsp 26 (a + 83) h7 rfl rfl rfl
set_option maxHeartbeats 4000000 in
set_option maxRecDepth 100000 in
theorem m_X1_init (l : Launch) (E : EN) (a : Nat) : Met l yX1_init wsX1_init ({ frames := 2, cells := 85, slots := 1319, locals := 40 }) (CK E [.ref a] (fun H => H.size = a + 1 ∧ va_at E.1 vwCl (a, .inr (1, [.null, .null, .null, .null, .null, .null, .null, .int (iI 0), .int (iI 0)])) H)) (QW none (fun H => H.size = a + 86 ∧ CW E (aBk a) (fun _ => (0, (fun _ => 0), (fun _ => 0))) (fun _ => 0) (fun _ => 0) (fun _ => 0) 0 100 H) (fun q => a ≤ q)) 85 1319 (fun q => a ≤ q) := by
  refine g_metK (cc := cX1_init) (maxL := 2) (ret := none) (lv := [(0, .ref a)]) (by decide) rfl (Nat.le_of_ble_eq_true rfl) rfl ?_
  intro xp xe xs xm xa xb xh xc S xK xO xr xlk xin
  have k1 := S.2.2.2.2 (.methodLink RX1 3 objectInit) (by decide +kernel)
  have k2 := S.2.2.2.2 (.instanceMethod objectInit) (by decide +kernel)
  have k3 := S.2.2.2.2 (.code objectInit ⟨#[0xb1]⟩ 1 none) (List.mem_cons_of_mem _ (List.mem_append_left _ (List.mem_of_getElem? (i := 2) rfl)))
  have kf11 := S.2.2.2.2 (.fieldLink RX1 11 "BookIndex" "spansByHeading" "[LBookIndex$Spans;") (by decide +kernel)
  have kf16 := S.2.2.2.2 (.fieldLink RX1 16 "BookIndex" "sees" "[I") (by decide +kernel)
  have kf20 := S.2.2.2.2 (.fieldLink RX1 20 "BookIndex" "seeAlsos" "[I") (by decide +kernel)
  have kf23 := S.2.2.2.2 (.fieldLink RX1 23 "BookIndex" "tally" "[I") (by decide +kernel)
  have kf26 := S.2.2.2.2 (.fieldLink RX1 26 "BookIndex" "asked" "LBookIndex$Spans;") (by decide +kernel)
  have kf30 := S.2.2.2.2 (.fieldLink RX1 30 "BookIndex" "made" "LBookIndex$Spans;") (by decide +kernel)
  have kf33 := S.2.2.2.2 (.fieldLink RX1 33 "BookIndex" "noSpans" "LBookIndex$Spans;") (by decide +kernel)
  have kf36 := S.2.2.2.2 (.fieldLink RX1 36 "BookIndex" "headingCount" "I") (by decide +kernel)
  have kf40 := S.2.2.2.2 (.fieldLink RX1 40 "BookIndex" "pageCount" "I") (by decide +kernel)
  have kaI := S.2.2.2.2 (.arrayClass .int) (by decide +kernel)
  have kcl := S.2.2.2.2 (.classLink RX1 9 RX0) (by decide +kernel)
  have kins := S.2.2.2.2 (.instantiable RX0 3) (by decide +kernel)
  have kini := S.2.2.2.2 (.initialized RX0) (by decide +kernel)
  have kml := S.2.2.2.2 (.methodLink RX1 15 yX0_init) (by decide +kernel)
  have kim := S.2.2.2.2 (.instanceMethod yX0_init) (by decide +kernel)
  have hin1 : ∀ w ∈ wsX10, w ∈ wsX1_init := by decide +kernel
  have hin0 : ∀ w ∈ wsX00, w ∈ wsX1_init := by decide +kernel
  refine g_aload_n S dX1_init_0 rfl 0 rfl ?_
  refine g_objInit S k1 k2 k3 dX1_init_1 ⟨Nat.le_of_ble_eq_true rfl, Nat.le_of_ble_eq_true rfl⟩ (Nat.le_of_ble_eq_true rfl) ?_
  refine g_aload_n S dX1_init_4 rfl 0 rfl ?_
  refine g_bipush S dX1_init_5 (by decide) ?_
  refine g_newQK S xK xO (n := 24) (a := a + 1) (Wp' := fun H => H.size = a + 2 ∧ va_at E.1 vwCl (a, .inr (1, [.null, .null, .null, .null, .null, .null, .null, .int (iI 0), .int (iI 0)])) H ∧ BR E a 0 0 H) kcl (by decide) ⟨Nat.le_of_ble_eq_true rfl, Nat.le_of_ble_eq_true rfl⟩ (fun _ h => h.1) (fun _ _ h hv hz hq => ⟨hz, h.2.kept (hq a (by omega)), by rw [← fQ_0]; exact hv, fun k hk => absurd hk (Nat.not_lt_zero k)⟩) dX1_init_7 ?_
  refine g_putF S xK (Wp' := fun H => H.size = a + 2 ∧ va_at E.1 vwCl (a, .inr (1, [.ref (a + 1), .null, .null, .null, .null, .null, .null, .int (iI 0), .int (iI 0)])) H ∧ BR E a 0 0 H) (ref := "BookIndex") (ty := .array (.object "BookIndex$Spans")) hin1 tyX1 tyX1_ok nmX1 0 (by decide) (show vwCl[1]? = some (RX1, TX1, 9) from rfl) kf11 (fun _ h9 => h9) rfl (xin rfl) rfl (by decide +kernel) rfl rfl (fun _ h => h.2.1) (Nat.le_of_ble_eq_true rfl) (Nat.le_refl a) (fun _ _ h hv z oq => ⟨z.trans h.1, hv, h.2.2.kept (fun q9 q1 q2 => oq q9 (by show q9 ≠ a; omega))⟩) dX1_init_10 ?_
  refine g_iconst S dX1_init_13 ?_
  refine g_istore_n S (lv' := [(1, .int (iI 0)), (0, .ref a)]) dX1_init_14 rfl (Nat.le_of_ble_eq_true rfl) rfl ?_
  have tail : G xp l xe ({ frames := 2, cells := 85, slots := 1319, locals := 40 }) xs xm xa xb xh xc 2 (fun q => a ≤ q) 73 864 (MQ xb (QW none (fun H => H.size = a + 86 ∧ CW E (aBk a) (fun _ => (0, (fun _ => 0), (fun _ => 0))) (fun _ => 0) (fun _ => 0) (fun _ => 0) 0 100 H) (fun q => a ≤ q)) xa xs 85 1319 (fun q => a ≤ q)) 40 [(1, .int (iI 24)), (0, .ref a)] [] (fun H => H.size = a + 74 ∧ va_at E.1 vwCl (a, .inr (1, [.ref (a + 1), .null, .null, .null, .null, .null, .null, .int (iI 0), .int (iI 0)])) H ∧ BR E a 24 24 H) := by
    refine g_aload_n S dX1_init_40 rfl 1 rfl ?_
    refine g_bipush S dX1_init_41 (by decide) ?_
    refine g_newIK S xK (n := 24) (a := a + 74) (Wp' := fun H => H.size = a + 75 ∧ va_at E.1 vwCl (a, .inr (1, [.ref (a + 1), .null, .null, .null, .null, .null, .null, .int (iI 0), .int (iI 0)])) H ∧ BR E a 24 24 H ∧ va_at E.1 vwCl (a + 74, aI (E.2 0) 24 (fun _ => 0)) H) kaI (by decide) ⟨Nat.le_of_ble_eq_true rfl, Nat.le_of_ble_eq_true rfl⟩ (fun _ h => h.1) (fun _ _ h hv hz hq => ⟨hz, h.2.1.kept (hq a (by omega)), h.2.2.kept (fun q9 q1 q2 => hq (q9) (by omega)), hv⟩) dX1_init_43 ?_
    refine g_putF S xK (Wp' := fun H => H.size = a + 75 ∧ va_at E.1 vwCl (a, .inr (1, [.ref (a + 1), .ref (a + 74), .null, .null, .null, .null, .null, .int (iI 0), .int (iI 0)])) H ∧ BR E a 24 24 H ∧ va_at E.1 vwCl (a + 74, aI (E.2 0) 24 (fun _ => 0)) H) (ref := "BookIndex") (ty := .array .int) hin1 tyX1 tyX1_ok nmX1 1 (by decide) (show vwCl[1]? = some (RX1, TX1, 9) from rfl) kf16 (fun _ h9 => h9) rfl (xin rfl) rfl (by decide +kernel) rfl rfl (fun _ h => h.2.1) (Nat.le_of_ble_eq_true rfl) (Nat.le_refl a) (fun _ _ h hv z oq => ⟨z.trans h.1, hv, h.2.2.1.kept (fun q9 q1 q2 => oq (q9) (by show q9 ≠ a; omega)), h.2.2.2.kept (oq (a + 74) (by show a + 74 ≠ a; omega))⟩) dX1_init_45 ?_
    refine g_aload_n S dX1_init_48 rfl 1 rfl ?_
    refine g_bipush S dX1_init_49 (by decide) ?_
    refine g_newIK S xK (n := 24) (a := a + 75) (Wp' := fun H => H.size = a + 76 ∧ va_at E.1 vwCl (a, .inr (1, [.ref (a + 1), .ref (a + 74), .null, .null, .null, .null, .null, .int (iI 0), .int (iI 0)])) H ∧ BR E a 24 24 H ∧ va_at E.1 vwCl (a + 74, aI (E.2 0) 24 (fun _ => 0)) H ∧ va_at E.1 vwCl (a + 75, aI (E.2 0) 24 (fun _ => 0)) H) kaI (by decide) ⟨Nat.le_of_ble_eq_true rfl, Nat.le_of_ble_eq_true rfl⟩ (fun _ h => h.1) (fun _ _ h hv hz hq => ⟨hz, h.2.1.kept (hq a (by omega)), h.2.2.1.kept (fun q9 q1 q2 => hq (q9) (by omega)), h.2.2.2.kept (hq (a + 74) (by omega)), hv⟩) dX1_init_51 ?_
    refine g_putF S xK (Wp' := fun H => H.size = a + 76 ∧ va_at E.1 vwCl (a, .inr (1, [.ref (a + 1), .ref (a + 74), .ref (a + 75), .null, .null, .null, .null, .int (iI 0), .int (iI 0)])) H ∧ BR E a 24 24 H ∧ va_at E.1 vwCl (a + 74, aI (E.2 0) 24 (fun _ => 0)) H ∧ va_at E.1 vwCl (a + 75, aI (E.2 0) 24 (fun _ => 0)) H) (ref := "BookIndex") (ty := .array .int) hin1 tyX1 tyX1_ok nmX1 2 (by decide) (show vwCl[1]? = some (RX1, TX1, 9) from rfl) kf20 (fun _ h9 => h9) rfl (xin rfl) rfl (by decide +kernel) rfl rfl (fun _ h => h.2.1) (Nat.le_of_ble_eq_true rfl) (Nat.le_refl a) (fun _ _ h hv z oq => ⟨z.trans h.1, hv, h.2.2.1.kept (fun q9 q1 q2 => oq (q9) (by show q9 ≠ a; omega)), h.2.2.2.1.kept (oq (a + 74) (by show a + 74 ≠ a; omega)), h.2.2.2.2.kept (oq (a + 75) (by show a + 75 ≠ a; omega))⟩) dX1_init_53 ?_
    refine g_aload_n S dX1_init_56 rfl 1 rfl ?_
    refine g_sipush S dX1_init_57 (by decide) ?_
    refine g_newIK S xK (n := 302) (a := a + 76) (Wp' := fun H => H.size = a + 77 ∧ va_at E.1 vwCl (a, .inr (1, [.ref (a + 1), .ref (a + 74), .ref (a + 75), .null, .null, .null, .null, .int (iI 0), .int (iI 0)])) H ∧ BR E a 24 24 H ∧ va_at E.1 vwCl (a + 74, aI (E.2 0) 24 (fun _ => 0)) H ∧ va_at E.1 vwCl (a + 75, aI (E.2 0) 24 (fun _ => 0)) H ∧ va_at E.1 vwCl (a + 76, aI (E.2 0) 302 (fun _ => 0)) H) kaI (by decide) ⟨Nat.le_of_ble_eq_true rfl, Nat.le_of_ble_eq_true rfl⟩ (fun _ h => h.1) (fun _ _ h hv hz hq => ⟨hz, h.2.1.kept (hq a (by omega)), h.2.2.1.kept (fun q9 q1 q2 => hq (q9) (by omega)), h.2.2.2.1.kept (hq (a + 74) (by omega)), h.2.2.2.2.kept (hq (a + 75) (by omega)), hv⟩) dX1_init_60 ?_
    refine g_putF S xK (Wp' := fun H => H.size = a + 77 ∧ va_at E.1 vwCl (a, .inr (1, [.ref (a + 1), .ref (a + 74), .ref (a + 75), .ref (a + 76), .null, .null, .null, .int (iI 0), .int (iI 0)])) H ∧ BR E a 24 24 H ∧ va_at E.1 vwCl (a + 74, aI (E.2 0) 24 (fun _ => 0)) H ∧ va_at E.1 vwCl (a + 75, aI (E.2 0) 24 (fun _ => 0)) H ∧ va_at E.1 vwCl (a + 76, aI (E.2 0) 302 (fun _ => 0)) H) (ref := "BookIndex") (ty := .array .int) hin1 tyX1 tyX1_ok nmX1 3 (by decide) (show vwCl[1]? = some (RX1, TX1, 9) from rfl) kf23 (fun _ h9 => h9) rfl (xin rfl) rfl (by decide +kernel) rfl rfl (fun _ h => h.2.1) (Nat.le_of_ble_eq_true rfl) (Nat.le_refl a) (fun _ _ h hv z oq => ⟨z.trans h.1, hv, h.2.2.1.kept (fun q9 q1 q2 => oq (q9) (by show q9 ≠ a; omega)), h.2.2.2.1.kept (oq (a + 74) (by show a + 74 ≠ a; omega)), h.2.2.2.2.1.kept (oq (a + 75) (by show a + 75 ≠ a; omega)), h.2.2.2.2.2.kept (oq (a + 76) (by show a + 76 ≠ a; omega))⟩) dX1_init_62 ?_
    refine g_aload_n S dX1_init_65 rfl 1 rfl ?_
    refine g_newO S xK (a := a + 77) (fs := [.null, .null, .int (iI 0)]) (Wp' := fun H => H.size = a + 78 ∧ va_at E.1 vwCl (a, .inr (1, [.ref (a + 1), .ref (a + 74), .ref (a + 75), .ref (a + 76), .null, .null, .null, .int (iI 0), .int (iI 0)])) H ∧ BR E a 24 24 H ∧ va_at E.1 vwCl (a + 74, aI (E.2 0) 24 (fun _ => 0)) H ∧ va_at E.1 vwCl (a + 75, aI (E.2 0) 24 (fun _ => 0)) H ∧ va_at E.1 vwCl (a + 76, aI (E.2 0) 302 (fun _ => 0)) H ∧ va_at E.1 vwCl (a + 77, .inr (0, [.null, .null, .int (iI 0)])) H) hin0 tyX0 tyX0_ok (show vwCl[0]? = some (RX0, TX0, 3) from rfl) kcl kins kini sp_born ⟨Nat.le_of_ble_eq_true rfl, Nat.le_of_ble_eq_true rfl⟩ (fun _ h => h.1) (fun _ _ h hv hz hq => ⟨hz, h.2.1.kept (hq a (by omega)), h.2.2.1.kept (fun q9 q1 q2 => hq (q9) (by omega)), h.2.2.2.1.kept (hq (a + 74) (by omega)), h.2.2.2.2.1.kept (hq (a + 75) (by omega)), h.2.2.2.2.2.kept (hq (a + 76) (by omega)), hv⟩) dX1_init_66 ?_
    refine g_dup S dX1_init_69 rfl ?_
    refine g_callI S xK (As := []) (Wp' := fun H => H.size = a + 80 ∧ va_at E.1 vwCl (a, .inr (1, [.ref (a + 1), .ref (a + 74), .ref (a + 75), .ref (a + 76), .null, .null, .null, .int (iI 0), .int (iI 0)])) H ∧ BR E a 24 24 H ∧ va_at E.1 vwCl (a + 74, aI (E.2 0) 24 (fun _ => 0)) H ∧ va_at E.1 vwCl (a + 75, aI (E.2 0) 24 (fun _ => 0)) H ∧ va_at E.1 vwCl (a + 76, aI (E.2 0) 302 (fun _ => 0)) H ∧ SPA E (a + 77) H) (m_X0_init l E (a + 77)) (cwI 0 S.2.2.2.2 gX1_init_X0_init rfl rfl rfl kini kml kim rfl (by decide +kernel) ⟨Nat.le_of_ble_eq_true rfl, Nat.le_of_ble_eq_true rfl⟩) rfl rfl (Nat.le_of_ble_eq_true rfl) ⟨Nat.le_of_ble_eq_true rfl, Nat.le_of_ble_eq_true rfl⟩ (fun q hq => by have hq : q = a + 77 := hq; show a ≤ q; omega) (fun _ h => ⟨h.1, h.2.2.2.2.2.2⟩) (fun _ _ h h2 _ hq => by have z9 := h.1; exact ⟨h2.1, h.2.1.kept (hq a (by omega) (by show ¬ a = _; omega)), h.2.2.1.kept (fun q9 q1 q2 => hq (q9) (by omega) (by show ¬ q9 = _; omega)), h.2.2.2.1.kept (hq (a + 74) (by omega) (by show ¬ a + 74 = _; omega)), h.2.2.2.2.1.kept (hq (a + 75) (by omega) (by show ¬ a + 75 = _; omega)), h.2.2.2.2.2.1.kept (hq (a + 76) (by omega) (by show ¬ a + 76 = _; omega)), h2.2⟩) dX1_init_70 ?_
    refine g_putF S xK (Wp' := fun H => H.size = a + 80 ∧ va_at E.1 vwCl (a, .inr (1, [.ref (a + 1), .ref (a + 74), .ref (a + 75), .ref (a + 76), .ref (a + 77), .null, .null, .int (iI 0), .int (iI 0)])) H ∧ BR E a 24 24 H ∧ va_at E.1 vwCl (a + 74, aI (E.2 0) 24 (fun _ => 0)) H ∧ va_at E.1 vwCl (a + 75, aI (E.2 0) 24 (fun _ => 0)) H ∧ va_at E.1 vwCl (a + 76, aI (E.2 0) 302 (fun _ => 0)) H ∧ SPA E (a + 77) H) (ref := "BookIndex") (ty := .object "BookIndex$Spans") hin1 tyX1 tyX1_ok nmX1 4 (by decide) (show vwCl[1]? = some (RX1, TX1, 9) from rfl) kf26 (fun _ h9 => h9) rfl (xin rfl) rfl (by decide +kernel) rfl rfl (fun _ h => h.2.1) (Nat.le_of_ble_eq_true rfl) (Nat.le_refl a) (fun _ _ h hv z oq => ⟨z.trans h.1, hv, h.2.2.1.kept (fun q9 q1 q2 => oq (q9) (by show q9 ≠ a; omega)), h.2.2.2.1.kept (oq (a + 74) (by show a + 74 ≠ a; omega)), h.2.2.2.2.1.kept (oq (a + 75) (by show a + 75 ≠ a; omega)), h.2.2.2.2.2.1.kept (oq (a + 76) (by show a + 76 ≠ a; omega)), h.2.2.2.2.2.2.kept (fun q9 q1 q2 => oq (q9) (by show q9 ≠ a; omega))⟩) dX1_init_73 ?_
    refine g_aload_n S dX1_init_76 rfl 1 rfl ?_
    refine g_newO S xK (a := a + 80) (fs := [.null, .null, .int (iI 0)]) (Wp' := fun H => H.size = a + 81 ∧ va_at E.1 vwCl (a, .inr (1, [.ref (a + 1), .ref (a + 74), .ref (a + 75), .ref (a + 76), .ref (a + 77), .null, .null, .int (iI 0), .int (iI 0)])) H ∧ BR E a 24 24 H ∧ va_at E.1 vwCl (a + 74, aI (E.2 0) 24 (fun _ => 0)) H ∧ va_at E.1 vwCl (a + 75, aI (E.2 0) 24 (fun _ => 0)) H ∧ va_at E.1 vwCl (a + 76, aI (E.2 0) 302 (fun _ => 0)) H ∧ SPA E (a + 77) H ∧ va_at E.1 vwCl (a + 80, .inr (0, [.null, .null, .int (iI 0)])) H) hin0 tyX0 tyX0_ok (show vwCl[0]? = some (RX0, TX0, 3) from rfl) kcl kins kini sp_born ⟨Nat.le_of_ble_eq_true rfl, Nat.le_of_ble_eq_true rfl⟩ (fun _ h => h.1) (fun _ _ h hv hz hq => ⟨hz, h.2.1.kept (hq a (by omega)), h.2.2.1.kept (fun q9 q1 q2 => hq (q9) (by omega)), h.2.2.2.1.kept (hq (a + 74) (by omega)), h.2.2.2.2.1.kept (hq (a + 75) (by omega)), h.2.2.2.2.2.1.kept (hq (a + 76) (by omega)), h.2.2.2.2.2.2.kept (fun q9 q1 q2 => hq (q9) (by omega)), hv⟩) dX1_init_77 ?_
    refine g_dup S dX1_init_80 rfl ?_
    refine g_callI S xK (As := []) (Wp' := fun H => H.size = a + 83 ∧ va_at E.1 vwCl (a, .inr (1, [.ref (a + 1), .ref (a + 74), .ref (a + 75), .ref (a + 76), .ref (a + 77), .null, .null, .int (iI 0), .int (iI 0)])) H ∧ BR E a 24 24 H ∧ va_at E.1 vwCl (a + 74, aI (E.2 0) 24 (fun _ => 0)) H ∧ va_at E.1 vwCl (a + 75, aI (E.2 0) 24 (fun _ => 0)) H ∧ va_at E.1 vwCl (a + 76, aI (E.2 0) 302 (fun _ => 0)) H ∧ SPA E (a + 77) H ∧ SPA E (a + 80) H) (m_X0_init l E (a + 80)) (cwI 0 S.2.2.2.2 gX1_init_X0_init rfl rfl rfl kini kml kim rfl (by decide +kernel) ⟨Nat.le_of_ble_eq_true rfl, Nat.le_of_ble_eq_true rfl⟩) rfl rfl (Nat.le_of_ble_eq_true rfl) ⟨Nat.le_of_ble_eq_true rfl, Nat.le_of_ble_eq_true rfl⟩ (fun q hq => by have hq : q = a + 80 := hq; show a ≤ q; omega) (fun _ h => ⟨h.1, h.2.2.2.2.2.2.2⟩) (fun _ _ h h2 _ hq => by have z9 := h.1; exact ⟨h2.1, h.2.1.kept (hq a (by omega) (by show ¬ a = _; omega)), h.2.2.1.kept (fun q9 q1 q2 => hq (q9) (by omega) (by show ¬ q9 = _; omega)), h.2.2.2.1.kept (hq (a + 74) (by omega) (by show ¬ a + 74 = _; omega)), h.2.2.2.2.1.kept (hq (a + 75) (by omega) (by show ¬ a + 75 = _; omega)), h.2.2.2.2.2.1.kept (hq (a + 76) (by omega) (by show ¬ a + 76 = _; omega)), h.2.2.2.2.2.2.1.kept (fun q9 q1 q2 => hq (q9) (by omega) (by show ¬ q9 = _; omega)), h2.2⟩) dX1_init_81 ?_
    refine g_putF S xK (Wp' := fun H => H.size = a + 83 ∧ va_at E.1 vwCl (a, .inr (1, [.ref (a + 1), .ref (a + 74), .ref (a + 75), .ref (a + 76), .ref (a + 77), .ref (a + 80), .null, .int (iI 0), .int (iI 0)])) H ∧ BR E a 24 24 H ∧ va_at E.1 vwCl (a + 74, aI (E.2 0) 24 (fun _ => 0)) H ∧ va_at E.1 vwCl (a + 75, aI (E.2 0) 24 (fun _ => 0)) H ∧ va_at E.1 vwCl (a + 76, aI (E.2 0) 302 (fun _ => 0)) H ∧ SPA E (a + 77) H ∧ SPA E (a + 80) H) (ref := "BookIndex") (ty := .object "BookIndex$Spans") hin1 tyX1 tyX1_ok nmX1 5 (by decide) (show vwCl[1]? = some (RX1, TX1, 9) from rfl) kf30 (fun _ h9 => h9) rfl (xin rfl) rfl (by decide +kernel) rfl rfl (fun _ h => h.2.1) (Nat.le_of_ble_eq_true rfl) (Nat.le_refl a) (fun _ _ h hv z oq => ⟨z.trans h.1, hv, h.2.2.1.kept (fun q9 q1 q2 => oq (q9) (by show q9 ≠ a; omega)), h.2.2.2.1.kept (oq (a + 74) (by show a + 74 ≠ a; omega)), h.2.2.2.2.1.kept (oq (a + 75) (by show a + 75 ≠ a; omega)), h.2.2.2.2.2.1.kept (oq (a + 76) (by show a + 76 ≠ a; omega)), h.2.2.2.2.2.2.1.kept (fun q9 q1 q2 => oq (q9) (by show q9 ≠ a; omega)), h.2.2.2.2.2.2.2.kept (fun q9 q1 q2 => oq (q9) (by show q9 ≠ a; omega))⟩) dX1_init_84 ?_
    refine g_aload_n S dX1_init_87 rfl 1 rfl ?_
    refine g_newO S xK (a := a + 83) (fs := [.null, .null, .int (iI 0)]) (Wp' := fun H => H.size = a + 84 ∧ va_at E.1 vwCl (a, .inr (1, [.ref (a + 1), .ref (a + 74), .ref (a + 75), .ref (a + 76), .ref (a + 77), .ref (a + 80), .null, .int (iI 0), .int (iI 0)])) H ∧ BR E a 24 24 H ∧ va_at E.1 vwCl (a + 74, aI (E.2 0) 24 (fun _ => 0)) H ∧ va_at E.1 vwCl (a + 75, aI (E.2 0) 24 (fun _ => 0)) H ∧ va_at E.1 vwCl (a + 76, aI (E.2 0) 302 (fun _ => 0)) H ∧ SPA E (a + 77) H ∧ SPA E (a + 80) H ∧ va_at E.1 vwCl (a + 83, .inr (0, [.null, .null, .int (iI 0)])) H) hin0 tyX0 tyX0_ok (show vwCl[0]? = some (RX0, TX0, 3) from rfl) kcl kins kini sp_born ⟨Nat.le_of_ble_eq_true rfl, Nat.le_of_ble_eq_true rfl⟩ (fun _ h => h.1) (fun _ _ h hv hz hq => ⟨hz, h.2.1.kept (hq a (by omega)), h.2.2.1.kept (fun q9 q1 q2 => hq (q9) (by omega)), h.2.2.2.1.kept (hq (a + 74) (by omega)), h.2.2.2.2.1.kept (hq (a + 75) (by omega)), h.2.2.2.2.2.1.kept (hq (a + 76) (by omega)), h.2.2.2.2.2.2.1.kept (fun q9 q1 q2 => hq (q9) (by omega)), h.2.2.2.2.2.2.2.kept (fun q9 q1 q2 => hq (q9) (by omega)), hv⟩) dX1_init_88 ?_
    refine g_dup S dX1_init_91 rfl ?_
    refine g_callI S xK (As := []) (Wp' := fun H => H.size = a + 86 ∧ va_at E.1 vwCl (a, .inr (1, [.ref (a + 1), .ref (a + 74), .ref (a + 75), .ref (a + 76), .ref (a + 77), .ref (a + 80), .null, .int (iI 0), .int (iI 0)])) H ∧ BR E a 24 24 H ∧ va_at E.1 vwCl (a + 74, aI (E.2 0) 24 (fun _ => 0)) H ∧ va_at E.1 vwCl (a + 75, aI (E.2 0) 24 (fun _ => 0)) H ∧ va_at E.1 vwCl (a + 76, aI (E.2 0) 302 (fun _ => 0)) H ∧ SPA E (a + 77) H ∧ SPA E (a + 80) H ∧ SPA E (a + 83) H) (m_X0_init l E (a + 83)) (cwI 0 S.2.2.2.2 gX1_init_X0_init rfl rfl rfl kini kml kim rfl (by decide +kernel) ⟨Nat.le_of_ble_eq_true rfl, Nat.le_of_ble_eq_true rfl⟩) rfl rfl (Nat.le_of_ble_eq_true rfl) ⟨Nat.le_of_ble_eq_true rfl, Nat.le_of_ble_eq_true rfl⟩ (fun q hq => by have hq : q = a + 83 := hq; show a ≤ q; omega) (fun _ h => ⟨h.1, h.2.2.2.2.2.2.2.2⟩) (fun _ _ h h2 _ hq => by have z9 := h.1; exact ⟨h2.1, h.2.1.kept (hq a (by omega) (by show ¬ a = _; omega)), h.2.2.1.kept (fun q9 q1 q2 => hq (q9) (by omega) (by show ¬ q9 = _; omega)), h.2.2.2.1.kept (hq (a + 74) (by omega) (by show ¬ a + 74 = _; omega)), h.2.2.2.2.1.kept (hq (a + 75) (by omega) (by show ¬ a + 75 = _; omega)), h.2.2.2.2.2.1.kept (hq (a + 76) (by omega) (by show ¬ a + 76 = _; omega)), h.2.2.2.2.2.2.1.kept (fun q9 q1 q2 => hq (q9) (by omega) (by show ¬ q9 = _; omega)), h.2.2.2.2.2.2.2.1.kept (fun q9 q1 q2 => hq (q9) (by omega) (by show ¬ q9 = _; omega)), h2.2⟩) dX1_init_92 ?_
    refine g_putF S xK (Wp' := fun H => H.size = a + 86 ∧ va_at E.1 vwCl (a, .inr (1, [.ref (a + 1), .ref (a + 74), .ref (a + 75), .ref (a + 76), .ref (a + 77), .ref (a + 80), .ref (a + 83), .int (iI 0), .int (iI 0)])) H ∧ BR E a 24 24 H ∧ va_at E.1 vwCl (a + 74, aI (E.2 0) 24 (fun _ => 0)) H ∧ va_at E.1 vwCl (a + 75, aI (E.2 0) 24 (fun _ => 0)) H ∧ va_at E.1 vwCl (a + 76, aI (E.2 0) 302 (fun _ => 0)) H ∧ SPA E (a + 77) H ∧ SPA E (a + 80) H ∧ SPA E (a + 83) H) (ref := "BookIndex") (ty := .object "BookIndex$Spans") hin1 tyX1 tyX1_ok nmX1 6 (by decide) (show vwCl[1]? = some (RX1, TX1, 9) from rfl) kf33 (fun _ h9 => h9) rfl (xin rfl) rfl (by decide +kernel) rfl rfl (fun _ h => h.2.1) (Nat.le_of_ble_eq_true rfl) (Nat.le_refl a) (fun _ _ h hv z oq => ⟨z.trans h.1, hv, h.2.2.1.kept (fun q9 q1 q2 => oq (q9) (by show q9 ≠ a; omega)), h.2.2.2.1.kept (oq (a + 74) (by show a + 74 ≠ a; omega)), h.2.2.2.2.1.kept (oq (a + 75) (by show a + 75 ≠ a; omega)), h.2.2.2.2.2.1.kept (oq (a + 76) (by show a + 76 ≠ a; omega)), h.2.2.2.2.2.2.1.kept (fun q9 q1 q2 => oq (q9) (by show q9 ≠ a; omega)), h.2.2.2.2.2.2.2.1.kept (fun q9 q1 q2 => oq (q9) (by show q9 ≠ a; omega)), h.2.2.2.2.2.2.2.2.kept (fun q9 q1 q2 => oq (q9) (by show q9 ≠ a; omega))⟩) dX1_init_95 ?_
    refine g_aload_n S dX1_init_98 rfl 1 rfl ?_
    refine g_iconst S dX1_init_99 ?_
    refine g_put S xK (Wp' := fun H => H.size = a + 86 ∧ va_at E.1 vwCl (a, .inr (1, [.ref (a + 1), .ref (a + 74), .ref (a + 75), .ref (a + 76), .ref (a + 77), .ref (a + 80), .ref (a + 83), .int (iI 0), .int (iI 0)])) H ∧ BR E a 24 24 H ∧ va_at E.1 vwCl (a + 74, aI (E.2 0) 24 (fun _ => 0)) H ∧ va_at E.1 vwCl (a + 75, aI (E.2 0) 24 (fun _ => 0)) H ∧ va_at E.1 vwCl (a + 76, aI (E.2 0) 302 (fun _ => 0)) H ∧ SPA E (a + 77) H ∧ SPA E (a + 80) H ∧ SPA E (a + 83) H) (ref := "BookIndex") (ty := .int) hin1 tyX1 tyX1_ok nmX1 7 (by decide) (show vwCl[1]? = some (RX1, TX1, 9) from rfl) kf36 (fun _ h9 => h9) rfl (by decide +kernel) rfl rfl (fun _ h => h.2.1) (Nat.le_of_ble_eq_true rfl) (Nat.le_refl a) (fun _ _ h hv z oq => ⟨z.trans h.1, hv, h.2.2.1.kept (fun q9 q1 q2 => oq (q9) (by show q9 ≠ a; omega)), h.2.2.2.1.kept (oq (a + 74) (by show a + 74 ≠ a; omega)), h.2.2.2.2.1.kept (oq (a + 75) (by show a + 75 ≠ a; omega)), h.2.2.2.2.2.1.kept (oq (a + 76) (by show a + 76 ≠ a; omega)), h.2.2.2.2.2.2.1.kept (fun q9 q1 q2 => oq (q9) (by show q9 ≠ a; omega)), h.2.2.2.2.2.2.2.1.kept (fun q9 q1 q2 => oq (q9) (by show q9 ≠ a; omega)), h.2.2.2.2.2.2.2.2.kept (fun q9 q1 q2 => oq (q9) (by show q9 ≠ a; omega))⟩) dX1_init_100 ?_
    refine g_aload_n S dX1_init_103 rfl 1 rfl ?_
    refine g_bipush S dX1_init_104 (by decide) ?_
    refine g_put S xK (Wp' := fun H => H.size = a + 86 ∧ va_at E.1 vwCl (a, .inr (1, [.ref (a + 1), .ref (a + 74), .ref (a + 75), .ref (a + 76), .ref (a + 77), .ref (a + 80), .ref (a + 83), .int (iI 0), .int (iI 100)])) H ∧ BR E a 24 24 H ∧ va_at E.1 vwCl (a + 74, aI (E.2 0) 24 (fun _ => 0)) H ∧ va_at E.1 vwCl (a + 75, aI (E.2 0) 24 (fun _ => 0)) H ∧ va_at E.1 vwCl (a + 76, aI (E.2 0) 302 (fun _ => 0)) H ∧ SPA E (a + 77) H ∧ SPA E (a + 80) H ∧ SPA E (a + 83) H) (ref := "BookIndex") (ty := .int) hin1 tyX1 tyX1_ok nmX1 8 (by decide) (show vwCl[1]? = some (RX1, TX1, 9) from rfl) kf40 (fun _ h9 => h9) rfl (by decide +kernel) rfl rfl (fun _ h => h.2.1) (Nat.le_of_ble_eq_true rfl) (Nat.le_refl a) (fun _ _ h hv z oq => ⟨z.trans h.1, hv, h.2.2.1.kept (fun q9 q1 q2 => oq (q9) (by show q9 ≠ a; omega)), h.2.2.2.1.kept (oq (a + 74) (by show a + 74 ≠ a; omega)), h.2.2.2.2.1.kept (oq (a + 75) (by show a + 75 ≠ a; omega)), h.2.2.2.2.2.1.kept (oq (a + 76) (by show a + 76 ≠ a; omega)), h.2.2.2.2.2.2.1.kept (fun q9 q1 q2 => oq (q9) (by show q9 ≠ a; omega)), h.2.2.2.2.2.2.2.1.kept (fun q9 q1 q2 => oq (q9) (by show q9 ≠ a; omega)), h.2.2.2.2.2.2.2.2.kept (fun q9 q1 q2 => oq (q9) (by show q9 ≠ a; omega))⟩) dX1_init_106 ?_
    exact g_vret S xr xlk dX1_init_109 (fun _ h => ⟨h.1, cw_born h.2⟩)
  have L15 : ∀ nf i : Nat, i + nf = 24 → G xp l xe ({ frames := 2, cells := 85, slots := 1319, locals := 40 }) xs xm xa xb xh xc 2 (fun q => a ≤ q) (1 + 3 * i) (24 + 35 * i) (MQ xb (QW none (fun H => H.size = a + 86 ∧ CW E (aBk a) (fun _ => (0, (fun _ => 0), (fun _ => 0))) (fun _ => 0) (fun _ => 0) (fun _ => 0) 0 100 H) (fun q => a ≤ q)) xa xs 85 1319 (fun q => a ≤ q)) 15 [(1, .int (iI (i : Int))), (0, .ref a)] [] (fun H => H.size = a + 2 + 3 * i ∧ va_at E.1 vwCl (a, .inr (1, [.ref (a + 1), .null, .null, .null, .null, .null, .null, .int (iI 0), .int (iI 0)])) H ∧ BR E a i i H) := by
    intro nf
    induction nf with
    | zero =>
      intro i hi
      have hi2 : i = 24 := by omega
      subst hi2
      refine g_iload_n S dX1_init_15 rfl 0 rfl ?_
      refine g_bipush S dX1_init_16 (by decide) ?_
      refine g_icmp_ge S (tgt := 40) dX1_init_18 (by decide) (by omega) (fun c18 => ?_) (fun c18 => ?_)
      · exact tail
      · exact absurd c18 (by decide)
    | succ nf ih =>
      intro i hi
      refine g_iload_n S dX1_init_15 rfl 0 rfl ?_
      refine g_bipush S dX1_init_16 (by decide) ?_
      refine g_icmp_ge S (tgt := 40) dX1_init_18 (by decide) (by omega) (fun c18 => ?_) (fun c18 => ?_)
      · exfalso; omega
      · skip
        refine g_aload_n S dX1_init_21 rfl 1 rfl ?_
        refine g_get S xK (ref := "BookIndex") hin1 0 (by decide) (show vwCl[1]? = some (RX1, TX1, 9) from rfl) kf11 (fun _ h9 => h9) (fun _ h => h.2.1) rfl dX1_init_22 ?_
        refine g_iload_n S dX1_init_25 rfl 0 rfl ?_
        refine g_newO S xK (a := a + 2 + 3 * i) (fs := [.null, .null, .int (iI 0)]) (Wp' := fun H => H.size = a + 2 + 3 * i + 1 ∧ va_at E.1 vwCl (a, .inr (1, [.ref (a + 1), .null, .null, .null, .null, .null, .null, .int (iI 0), .int (iI 0)])) H ∧ BR E a i i H ∧ va_at E.1 vwCl (a + 2 + 3 * i, .inr (0, [.null, .null, .int (iI 0)])) H) hin0 tyX0 tyX0_ok (show vwCl[0]? = some (RX0, TX0, 3) from rfl) kcl kins kini sp_born ⟨show 1 + 3 * i + 1 ≤ 85 by omega, show 24 + 35 * i + 3 ≤ 1319 by omega⟩ (fun _ h => h.1) (fun _ _ h hv hz hq => ⟨hz, h.2.1.kept (hq a (by omega)), h.2.2.kept (fun q9 q1 q2 => hq q9 (by omega)), hv⟩) dX1_init_26 ?_
        refine g_dup S dX1_init_29 rfl ?_
        refine g_callI S xK (As := []) (Wp' := fun H => H.size = a + 2 + 3 * (i + 1) ∧ va_at E.1 vwCl (a, .inr (1, [.ref (a + 1), .null, .null, .null, .null, .null, .null, .int (iI 0), .int (iI 0)])) H ∧ BR E a i (i + 1) H) (m_X0_init l E (a + 2 + 3 * i)) (cwI 0 S.2.2.2.2 gX1_init_X0_init rfl rfl rfl kini kml kim rfl (by decide +kernel) ⟨Nat.le_of_ble_eq_true rfl, Nat.le_of_ble_eq_true rfl⟩) rfl rfl (Nat.le_of_ble_eq_true rfl) ⟨show 1 + 3 * i + 1 + 2 ≤ 85 by omega, show 24 + 35 * i + 3 + 32 ≤ 1319 by omega⟩ (fun q hq => by have hq : q = a + 2 + 3 * i := hq; show a ≤ q; omega) (fun _ h => ⟨h.1, h.2.2.2⟩) (fun _ _ h h2 _ hq => by have z9 := h.1; have z8 := h2.1; exact ⟨by omega, h.2.1.kept (hq a (by omega) (by show ¬ a = _; omega)), (h.2.2.1.kept (fun q9 q1 q2 => hq q9 (by omega) (by show ¬ q9 = _; omega))).more h2.2⟩) dX1_init_30 ?_
        refine g_qast S xK (Wp' := fun H => H.size = a + 2 + 3 * (i + 1) ∧ va_at E.1 vwCl (a, .inr (1, [.ref (a + 1), .null, .null, .null, .null, .null, .null, .int (iI 0), .int (iI 0)])) H ∧ BR E a (i + 1) (i + 1) H) (fun _ h => h.2.2.1) (fun _ h => (h.2.2.2 i (Nat.lt_succ_self i)).1) (by omega) (by decide) (by show a ≤ a + 1; omega) (fun _ _ h hv z oq => ⟨z.trans h.1, h.2.1.kept (oq a (by show a ≠ a + 1; omega)), h.2.2.put hv oq⟩) dX1_init_33 ?_
        refine g_iinc S (lv' := [(1, .int (iI ((i : Int) + 1))), (0, .ref a)]) dX1_init_34 0 rfl (Nat.le_of_ble_eq_true rfl) rfl ?_
        refine g_goto S (tgt := 15) dX1_init_37 (by decide) ?_
        refine g_wid (k := 1 + 3 * (i + 1)) (n := 24 + 35 * (i + 1)) (by omega) (by omega) ?_
        exact ih (i + 1) (by omega)
  exact L15 24 0 rfl
