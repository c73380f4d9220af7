/-! ARRAYS OF ARRAYS: their classes, their cells, contracts of methods that make them -/
def aoA (t : FieldType) (U : State) : Prop := (Cond.arrayOver (.array t)).before #[] U = true
theorem aoA.use {t : FieldType} {A : Array Value} {U : State} (h : aoA t U) : (Cond.arrayOver (.array t)).before A U = true := h
theorem aoA.of {t : FieldType} {A : Array Value} {U : State} (h : (Cond.arrayOver (.array t)).before A U = true) : aoA t U := h
theorem aoA.moved {t : FieldType} {u U : State} (hvm : u.vm.Alike U.vm) (h : aoA t u) : aoA t U := by
  obtain ⟨comp, c, k, h1, h2, h3, h4, h5⟩ := arrayOverA_spec h
  obtain ⟨k2, hk2, he⟩ := hvm.2.2 _ _ h3
  have hi : (U.vm.classes.findIdx? fun (x : Class) => match x.kind with | .array component _ => component == comp | _ => false) = some c := by
    rw [hvm.findIdx?_eq _ (fun _ => rfl)]
    exact h2
  have hkind : k2.kind = .array comp (.array t) := by rw [he]; exact h4
  have f1 : U.vm.findClass (FieldType.array t).toString = some comp := by rw [hvm.findClass]; exact h1
  have f2 : U.vm.findClass ("[" ++ (FieldType.array t).toString) = some c := by rw [hvm.findClass]; exact h5
  unfold aoA Cond.before Cond.holds
  simp only [Cond.value]
  rw [f1, Option.bind_some]
  refine (congrArg (fun o : Option Nat => (o.bind (fun c => (U.vm.classes[c]?).map fun (k : Class) => match k.kind with | .array _ ty => decide (ty = FieldType.array t) && decide (U.vm.findClass ("[" ++ (FieldType.array t).toString) = some c) | _ => false) == some true)) hi).trans ?_
  simp [hk2, hkind, f2]
/-- the arrays of arrays of the law -/
def OA (U : State) : Prop := aoA .int U ∧ aoA (.array .int) U
theorem OA.moved {u U : State} (hvm : u.vm.Alike U.vm) (h : OA u) : OA U := ⟨h.1.moved hvm, h.2.moved hvm⟩
theorem asg_self (vm : Vm) (c : ClassId) : vm.assignable c c = true := by
  show vm.assignableAux (255 + 1) c c = true
  rw [Vm.assignableAux]
  simp only [beq_self_eq_true, Bool.true_or]
theorem oa_k3 {E : EN} {s : State} (hK : KC E s) (hO : OA s) : ∃ k k0 : Class, s.vm.classes[E.2 3]? = some k ∧ k.kind = .array (E.2 0) (.array .int) ∧ s.vm.classes[E.2 0]? = some k0 := by
  obtain ⟨comp, c, k, h1, -, h3, h4, h5⟩ := arrayOverA_spec hO.1
  have e3 : c = E.2 3 := Option.some.inj (h5.symm.trans (hK.2 3 _ rfl).2)
  have e0 : comp = E.2 0 := Option.some.inj (h1.symm.trans (hK.2 0 _ rfl).2)
  subst e3; subst e0
  obtain ⟨-, k0, hk0, -⟩ := (hK.2 0 _ rfl).1 0 (fun _ => .null)
  exact ⟨k, k0, h3, h4, hk0⟩
theorem oa_k4 {E : EN} {s : State} (hK : KC E s) (hO : OA s) : ∃ k k0 : Class, s.vm.classes[E.2 4]? = some k ∧ k.kind = .array (E.2 3) (.array (.array .int)) ∧ s.vm.classes[E.2 3]? = some k0 := by
  obtain ⟨comp, c, k, h1, -, h3, h4, h5⟩ := arrayOverA_spec hO.2
  have e3 : c = E.2 4 := Option.some.inj (h5.symm.trans (hK.2 4 _ rfl).2)
  have e0 : comp = E.2 3 := Option.some.inj (h1.symm.trans (hK.2 3 _ rfl).2)
  subst e3; subst e0
  obtain ⟨-, k0, hk0, -⟩ := (hK.2 3 _ rfl).1 0 (fun _ => .null)
  exact ⟨k, k0, h3, h4, hk0⟩
def tA (t : Nat) : FieldType := if t = 3 then .int else .array .int
def tC (t : Nat) : Nat := if t = 3 then 0 else 3
theorem oa_k {E : EN} {s : State} (hK : KC E s) (hO : OA s) {t : Nat} (ht : t = 3 ∨ t = 4) : ∃ k k0 : Class, s.vm.classes[E.2 t]? = some k ∧ k.kind = .array (E.2 (tC t)) (.array (tA t)) ∧ s.vm.classes[E.2 (tC t)]? = some k0 := by
  rcases ht with rfl | rfl
  · exact oa_k3 hK hO
  · exact oa_k4 hK hO
theorem oa_ty {E : EN} {t : Nat} (ht : t = 3 ∨ t = 4) : (tyL E)[t]? = some (E.2 t, .array (tA t)) := by
  rcases ht with rfl | rfl <;> rfl
theorem oa_ao {s : State} (hO : OA s) {t : Nat} (ht : t = 3 ∨ t = 4) : aoA (tA t) s := by
  rcases ht with rfl | rfl
  · exact hO.1
  · exact hO.2
/-! cells -/
abbrev aP (cA : ClassId) (n : Nat) (f : Nat → Option Nat) : va_E := .inl (cA, n, .inr (.inr (.inr (.inr f))))
/-- ints; truths; an array of arrays, whole; one of which so many are put in -/
abbrev vI (E : EN) (a : Nat) (n : Int) (F : Int → Int) (H : Heap) : Prop := va_at E.1 vwCl (a, aI (E.2 0) n.toNat F) H
abbrev vZ (E : EN) (a : Nat) (n : Int) (F : Int → Int) (H : Heap) : Prop := va_at E.1 vwCl (a, aI (E.2 2) n.toNat F) H
abbrev vR (E : EN) (t a : Nat) (n : Int) (f : Int → Nat) (H : Heap) : Prop := va_at E.1 vwCl (a, aR (E.2 t) n.toNat f) H
abbrev vP (E : EN) (t a : Nat) (n k : Int) (f : Int → Nat) (H : Heap) : Prop := va_at E.1 vwCl (a, aP (E.2 t) n.toNat (fun j : Nat => if (j : Int) < k then some (f j) else none)) H
/-- an array of that class, whatever it holds -/
def AC (E : EN) (c a : Nat) (H : Heap) : Prop := ∃ (n : Nat) (x : (Nat → Int32) ⊕ (Nat → Int64) ⊕ (Nat → UInt32) ⊕ (Nat → UInt64) ⊕ (Nat → Option Nat)), va_at E.1 vwCl (a, .inl (E.2 c, n, x)) H
theorem AC.kept {E : EN} {c a : Nat} {H H1 : Heap} (h : AC E c a H) (hq : H1[a]? = H[a]?) : AC E c a H1 := by
  obtain ⟨n, x, h⟩ := h
  exact ⟨n, x, h.kept hq⟩
theorem vI.ac {E : EN} {a : Nat} {n : Int} {F : Int → Int} {H : Heap} (h : vI E a n F H) : AC E 0 a H := ⟨_, _, h⟩
theorem vR.ac {E : EN} {t a : Nat} {n : Int} {f : Int → Nat} {H : Heap} (h : vR E t a n f H) : AC E t a H := ⟨_, _, h⟩
theorem aP_eq {cA : ClassId} {n : Nat} {f g : Nat → Option Nat} (h : ∀ j, j < n → f j = g j) : vp_cell cA (n, .inr (.inr (.inr (.inr f)))) = vp_cell cA (n, .inr (.inr (.inr (.inr g)))) := by
  rw [vp_cell_q, vp_cell_q]
  exact arrV_same (fun j hj => by rw [h j hj])
theorem vP.full {E : EN} {t a : Nat} {n k : Int} {f g : Int → Nat} {H : Heap} (h : vP E t a n k f H) (hk : n ≤ k) (hg : ∀ j : Int, 0 ≤ j → j < n → f j = g j) : vR E t a n g H := by
  show H[a]? = some (vp_cell _ _)
  rw [← aP_eq (f := fun j : Nat => if (j : Int) < k then some (f j) else none)]
  · exact h
  · intro j hj
    show (if (j : Int) < k then some (f j) else none) = some (g j)
    rw [if_pos (by omega), hg j (by omega) (by omega)]
theorem aI_eq {cA : ClassId} {n : Nat} {F K : Int → Int} (h : ∀ j : Int, 0 ≤ j → j < n → F j = K j) : vp_cell cA (n, .inl (fun k : Nat => iI (F k))) = vp_cell cA (n, .inl (fun k : Nat => iI (K k))) := by
  rw [vp_cell_i, vp_cell_i]
  exact arrV_same (fun j hj => by show Value.int (iI (F (j : Int))) = .int (iI (K (j : Int))); rw [h j (by omega) (by omega)])
theorem vI.eq {E : EN} {a : Nat} {n : Int} {F K : Int → Int} {H : Heap} (h : vI E a n F H) (hg : ∀ j : Int, 0 ≤ j → j < n → F j = K j) : vI E a n K H := by
  show H[a]? = some (vp_cell _ _)
  rw [← aI_eq (F := F)]
  · exact h
  · exact fun j h0 h1 => hg j h0 (by omega)
theorem vR.eq {E : EN} {t a : Nat} {n : Int} {f g : Int → Nat} {H : Heap} (h : vR E t a n f H) (hg : ∀ j : Int, 0 ≤ j → j < n → f j = g j) : vR E t a n g H := by
  show H[a]? = some (vp_cell _ _)
  rw [← aP_eq (f := fun j : Nat => some (f j))]
  · exact h
  · intro j hj
    show some (f j) = some (g j)
    rw [hg j (by omega) (by omega)]
/-! a world that speaks of old cells alone -/
def KP (z : Nat) (W : Heap → Prop) : Prop := ∀ H H1 : Heap, W H → z ≤ H1.size → (∀ q : Nat, q < z → H1[q]? = H[q]?) → W H1
theorem KP.mono {z z1 : Nat} {W : Heap → Prop} (h : KP z W) (hz : z ≤ z1) : KP z1 W := fun H H1 hw h1 hq => h H H1 hw (by omega) (fun q h2 => hq q (by omega))
theorem KP.and {z : Nat} {W V : Heap → Prop} (h : KP z W) (h2 : KP z V) : KP z (fun H => W H ∧ V H) := fun H H1 hw h1 hq => ⟨h H H1 hw.1 h1 hq, h2 H H1 hw.2 h1 hq⟩
theorem KP.at {z a : Nat} {D : va_G} {cl : List vw_C} {c : va_E} (ha : a < z) : KP z (fun H => va_at D cl (a, c) H) := fun _ _ hw _ hq => hw.kept (hq a ha)
/-! contracts -/
def CS (E : EN) (As : List Value) (Wp : Heap → Prop) : Array Value → State → Prop := va_Pc As (fun U => KC E U ∧ Wp U.heap ∧ OA U)
theorem CS_blind {E : EN} {As : List Value} {Wp : Heap → Prop} : FrameBlind (CS E As Wp) := by
  intro a U g mk h
  obtain ⟨h0, h1, h2, h3⟩ := h
  exact ⟨h0, va_K.moved (u := U) (U := U.calling g mk a) (Vm.Alike.refl U.vm) h1, h2, OA.moved (u := U) (U := U.calling g mk a) (Vm.Alike.refl U.vm) h3⟩
/-- a call that gives something made: its address isn't known ahead -/
def QR (P : Nat → Heap → Prop) (A : Nat → Prop) : Array Value → State → Outcome → State → Prop := fun _ s0 oc t => ∃ c, oc = .returned (some (.ref c)) ∧ P c t.heap ∧ va_F A s0 t
theorem g_metS {l : Launch} {y : MethodName} {ws ws' : List Cond} {rm : Room} {E : EN} {As : List Value} {W1 : Heap → Prop} {Qc : Array Value → State → Outcome → State → Prop} {mc ms : Nat} {A : Nat → Prop} {cc : ByteArray} {maxL : Nat} {ret : Option FieldType} {lv : List (Nat × Value)}
    (hy : plainName y.cls = true) (hw : ws = Cond.code y cc maxL ret :: ws') (hlen : (lg_sl As).length ≤ maxL) (hlv : lv_args 0 As = lv)
    (body : ∀ (p : Program) (e : Env) (s : State) (m : MethodId) (args : Array Value) (below : List Frame) (meth : Method) (c : Code), CallFix p m c cc maxL s args ws y.cls → KC E s → OA s → meth.sig.returnType = ret → meth.locks = false → (y.name = "<init>" → meth.name = "<init>") → G p l e rm s m args below meth c maxL A 0 0 (MQ below Qc args s mc ms A) 0 lv [] W1) :
    Met l y ws rm (CS E As W1) Qc mc ms A := by
  refine Met.ofW (cc := cc) (maxL := maxL) (ret := ret) hy hw ?_
  intro p e s m args below meth c s₁ B hml hv
  obtain ⟨rfl, hK, hW1, hO⟩ := hv
  have hl := lv_entry As hlen
  rw [lg_entry_eq]
  subst hlv
  exact body p e s m _ below meth c ⟨B.exec, B.bytes, hml, findClass_of_methodNamed B.named, atoms_spec (ws := ws) B.pre⟩ hK hO B.returns B.notSynchronized (fun hn => (name_of_methodNamed B.named B.method).1.trans hn) s.heap [] _ hl hW1 va_S.rf
section GA
variable {p : Program} {l : Launch} {e : Env} {R : Room} {s : State} {m : MethodId} {args : Array Value} {below : List Frame} {meth : Method} {c : Code} {nL : Nat} {A : Nat → Prop} {cells slots : Nat} {Q : State → Prop}
variable {cc : ByteArray} {Ts : List Cond} {own : String} {pc : Nat} {lv lv' : List (Nat × Value)} {st : List Value} {Wp Wp' : Heap → Prop} {E : EN}
/-- the heap's size, by a name -/
theorem g_sz (k : ∀ z : Nat, s.heap.size ≤ z → G p l e R s m args below meth c nL A cells slots Q pc lv st (fun H => H.size = z ∧ Wp H)) : G p l e R s m args below meth c nL A cells slots Q pc lv st Wp :=
  fun H locs ls hl h hS => k H.size hS.1 H locs ls hl ⟨rfl, h⟩ hS
theorem g_st1 {v v2 : Value} (h : v = v2) (k : G p l e R s m args below meth c nL A cells slots Q pc lv (v2 :: st) Wp) : G p l e R s m args below meth c nL A cells slots Q pc lv (v :: st) Wp := by
  rw [h]; exact k
theorem g_newR (S : CallFix p m c cc nL s args Ts own) (hK : KC E s) (hO : OA s) {t : Nat} (ht : t = 3 ∨ t = 4) {n : Int} {a idx : Nat} (hcl : (Cond.classLink own idx (FieldType.array (tA t)).toString).before args s = true) (hn : 0 ≤ n ∧ n ≤ 1000) (hcs : cells + 1 ≤ R.cells ∧ slots + n.toNat ≤ R.slots) (hsz : ∀ H, Wp H → H.size = a)
    (hW : ∀ (H H' : Heap), Wp H → vP E t a n 0 (fun _ => 0) H' → H'.size = a + 1 → (∀ q : Nat, q < a → H'[q]? = H[q]?) → Wp' H') (hd : decode cc pc = .ok (.anewarray idx, 3))
    (kk : G p l e R s m args below meth c nL A (cells + 1) (slots + n.toNat) Q (pc + 3) lv (.ref a :: st) Wp') : G p l e R s m args below meth c nL A cells slots Q pc lv (.int (iI n) :: st) Wp := by
  intro H locs ls hl h hS
  have hz := hsz H h
  have en : (iI n).toNatClampNeg = n.toNat := iI_cl hn.1 (by omega)
  refine W.anewA (t := tA t) S.1 S.2.1 S.2.2.2.1 hcl (aoA.use (oa_ao hO ht)) rfl hd rfl ?_ ?_ hcs.1 ?_ fun cA kA comp f1 f2 f3 f4 => ?_
  · rw [← iI_0, iI_lt (by omega)]; omega
  · rw [en]; omega
  · rw [en]; exact hcs.2
  · rw [en]
    generalize hH1 : H.push ({ cls := cA, slots := Array.replicate n.toNat .null, vm := .none } : Cell) = H1
    have z1 : H1.size = H.size + 1 := by rw [← hH1, Array.size_push]
    have e1 : H1[H.size]? = some (arrV cA n.toNat (fun _ => .null)) := by rw [← hH1, Array.getElem?_push_size, ← arrV_new]
    have o1 : ∀ q : Nat, q < H.size → H1[q]? = H[q]? := fun q hq => by rw [← hH1, Array.getElem?_push, if_neg (Nat.ne_of_lt hq)]
    have hr : va_RA s (E.2 t) (.array (tA t)) := (hK.2 t _ (oa_ty ht)).2
    have ec : cA = E.2 t := Option.some.inj (f1.symm.trans hr)
    subst ec
    rw [hz] at z1 e1 o1 ⊢
    have h0 := hS.1
    refine kk H1 locs ls hl (hW H H1 h ?_ z1 o1) ⟨by omega, fun q q1 q2 => (o1 q (by omega)).trans (hS.2.1 q q1 q2), hS.2.2⟩
    show H1[a]? = some (vp_cell _ _)
    rw [aP_eq (g := fun _ => none) (fun j hj => if_neg (by omega)), vp_cell_q]
    exact e1
theorem g_stQ (S : CallFix p m c cc nL s args Ts own) (hK : KC E s) (hO : OA s) {t : Nat} (ht : t = 3 ∨ t = 4) {a n v : Nat} {f : Nat → Option Nat} {z : Int} (hw : ∀ H, Wp H → va_at E.1 vwCl (a, aP (E.2 t) n f) H) (hv : ∀ H, Wp H → AC E (tC t) v H) (hz : 0 ≤ z ∧ z < n) (hn : n ≤ 2147483647) (hA : A a)
    (hW : ∀ H H', Wp H → va_at E.1 vwCl (a, aP (E.2 t) n (va_up f z.toNat (some v))) H' → H'.size = H.size → (∀ q : Nat, q ≠ a → H'[q]? = H[q]?) → Wp' H') (hd : decode cc pc = .ok (.aastore, 1))
    (kk : G p l e R s m args below meth c nL A cells slots Q (pc + 1) lv st Wp') : G p l e R s m args below meth c nL A cells slots Q pc lv (.ref v :: .int (iI z) :: .ref a :: st) Wp := by
  intro H locs ls hl h hS
  have hin := iI_in hz hn
  have ez := iI_cl hz.1 (show z ≤ 2147483647 by omega)
  have hlt : (iI z).toNatClampNeg < n := Nat.not_le.mp fun q => hin (Or.inr q)
  have h0 : ¬ iI z < 0 := fun q => hin (Or.inl q)
  obtain ⟨nv, x, hv⟩ := hv H h
  obtain ⟨kA, k0, k1, k2, k3⟩ := oa_k hK hO ht
  refine W.aast S.1 S.2.1 (hw H h) (fun q h => by cases h) (fun h => by cases h) k1 k2 rfl k3 ⟨h0, by show _ < (arrV _ _ _).slots.size; rw [arrV_size]; exact hlt⟩ hv (fun q h => by cases x with | inl x => cases h | inr x => cases x with | inl x => cases h | inr x => cases x with | inl x => cases h | inr x => cases x with | inl x => cases h | inr x => cases h) (by
      have e9 : (vp_cell (E.2 (tC t)) (nv, x)).cls = E.2 (tC t) := by
        cases x with | inl x => rfl | inr x => cases x with | inl x => rfl | inr x => cases x with | inl x => rfl | inr x => cases x with | inl x => rfl | inr x => rfl
      show s.vm.classes[(vp_cell (E.2 (tC t)) (nv, x)).cls]? = _
      rw [e9]; exact k3) (by
      have e9 : (vp_cell (E.2 (tC t)) (nv, x)).cls = E.2 (tC t) := by
        cases x with | inl x => rfl | inr x => cases x with | inl x => rfl | inr x => cases x with | inl x => rfl | inr x => cases x with | inl x => rfl | inr x => rfl
      show s.vm.assignable (vp_cell (E.2 (tC t)) (nv, x)).cls _ = true
      rw [e9]; exact asg_self _ _) rfl rfl hd fun H1 e z1 oq => ?_
  refine kk H1 _ ls hl (hW H H1 h ?_ z1 oq) (hS.put z1 oq hA)
  show H1[a]? = some (vp_cell _ _)
  rw [e, ez, vp_cell_q, vp_cell_q, arrV_store]
  congr 2
  funext q
  by_cases hq : q = z.toNat
  · subst hq
    simp [updV, va_up, va_rf]
  · simp [updV, va_up, hq]
/-- one more is put in -/
theorem g_stP (S : CallFix p m c cc nL s args Ts own) (hK : KC E s) (hO : OA s) {t : Nat} (ht : t = 3 ∨ t = 4) {a v : Nat} {n z : Int} {f : Int → Nat} (hw : ∀ H, Wp H → vP E t a n z f H) (hv : ∀ H, Wp H → AC E (tC t) v H) (hz : 0 ≤ z ∧ z < n ∧ n ≤ 1000) (hA : A a)
    (hW : ∀ H H', Wp H → vP E t a n (z + 1) (upI f z v) H' → H'.size = H.size → (∀ q : Nat, q ≠ a → H'[q]? = H[q]?) → Wp' H') (hd : decode cc pc = .ok (.aastore, 1))
    (kk : G p l e R s m args below meth c nL A cells slots Q (pc + 1) lv st Wp') : G p l e R s m args below meth c nL A cells slots Q pc lv (.ref v :: .int (iI z) :: .ref a :: st) Wp := by
  refine g_stQ S hK hO ht hw hv ⟨hz.1, by omega⟩ (by omega) hA (fun H H1 h1 h2 h3 h4 => hW H H1 h1 ?_ h3 h4) hd kk
  show H1[a]? = some (vp_cell _ _)
  rw [← aP_eq (f := va_up (fun j : Nat => if (j : Int) < z then some (f j) else none) z.toNat (some v))]
  · exact h2
  · intro j hj
    show va_up (fun j : Nat => if (j : Int) < z then some (f j) else none) z.toNat (some v) j = if (j : Int) < z + 1 then some (upI f z v j) else none
    by_cases e : j = z.toNat
    · subst e
      rw [if_pos (by omega), show ((z.toNat : Nat) : Int) = z by omega, upI_s]
      simp [va_up]
    · rw [upI_n _ _ (by omega)]
      have e2 : va_up (fun j : Nat => if (j : Int) < z then some (f j) else none) z.toNat (some v) j = if (j : Int) < z then some (f j) else none := by simp [va_up, e]
      rw [e2]
      by_cases c2 : (j : Int) < z
      · rw [if_pos c2, if_pos (by omega)]
      · rw [if_neg c2, if_neg (by omega)]
/-- one is put in another's place -/
theorem g_stR (S : CallFix p m c cc nL s args Ts own) (hK : KC E s) (hO : OA s) {t : Nat} (ht : t = 3 ∨ t = 4) {a v : Nat} {n z : Int} {f : Int → Nat} (hw : ∀ H, Wp H → vR E t a n f H) (hv : ∀ H, Wp H → AC E (tC t) v H) (hz : 0 ≤ z ∧ z < n ∧ n ≤ 1000) (hA : A a)
    (hW : ∀ H H', Wp H → vR E t a n (upI f z v) H' → H'.size = H.size → (∀ q : Nat, q ≠ a → H'[q]? = H[q]?) → Wp' H') (hd : decode cc pc = .ok (.aastore, 1))
    (kk : G p l e R s m args below meth c nL A cells slots Q (pc + 1) lv st Wp') : G p l e R s m args below meth c nL A cells slots Q pc lv (.ref v :: .int (iI z) :: .ref a :: st) Wp := by
  refine g_stQ S hK hO ht (n := n.toNat) hw hv ⟨hz.1, by omega⟩ (by omega) hA (fun H H1 h1 h2 h3 h4 => hW H H1 h1 ?_ h3 h4) hd kk
  show H1[a]? = some (vp_cell _ _)
  rw [← aP_eq (f := va_up (fun j : Nat => some (f j)) z.toNat (some v))]
  · exact h2
  · intro j hj
    show va_up (fun j : Nat => some (f j)) z.toNat (some v) j = some (upI f z v j)
    by_cases e : j = z.toNat
    · subst e
      rw [show ((z.toNat : Nat) : Int) = z by omega, upI_s]
      simp [va_up]
    · rw [upI_n _ _ (by omega)]
      simp [va_up, e]
theorem g_ldR (S : CallFix p m c cc nL s args Ts own) (hK : KC E s) {t : Nat} (ht : t = 3 ∨ t = 4) {a : Nat} {n z : Int} {f : Int → Nat} (hw : ∀ H, Wp H → vR E t a n f H) (hz : 0 ≤ z ∧ z < n ∧ n ≤ 1000) (hd : decode cc pc = .ok (.aaload, 1)) (kk : G p l e R s m args below meth c nL A cells slots Q (pc + 1) lv (.ref (f z) :: st) Wp) : G p l e R s m args below meth c nL A cells slots Q pc lv (.int (iI z) :: .ref a :: st) Wp := by
  intro H locs ls hl h hS
  have hin := iI_in (n := n.toNat) (z := z) ⟨hz.1, by omega⟩ (by omega)
  have ez := iI_cl hz.1 (show z ≤ 2147483647 by omega)
  have hlt : (iI z).toNatClampNeg < n.toNat := Nat.not_le.mp fun q => hin (Or.inr q)
  have hAr := (hK.2 t _ (oa_ty ht)).1 n.toNat (fun j : Nat => Value.ref (f j))
  refine W.aald (v := .ref (f z)) (ty := .array (tA t)) S.1 S.2.1 (hw H h) hAr rfl (fun q => by cases q) (by show ¬ (iI z < 0 ∨ (arrV _ _ _).slots.size ≤ _); rw [arrV_size]; exact hin) (by show (arrV _ _ _).slots[_]? = _; rw [arrV_read _ _ hlt]; show some (Value.ref (f (((iI z).toNatClampNeg : Nat) : Int))) = _; rw [iI_clz hz.1 (by omega)]) rfl rfl hd ?_
  exact kk H locs ls hl h hS
theorem g_lenI (S : CallFix p m c cc nL s args Ts own) (hK : KC E s) {a : Nat} {n : Int} {F : Int → Int} (hw : ∀ H, Wp H → vI E a n F H) (hn : 0 ≤ n) (hd : decode cc pc = .ok (.arraylength, 1)) (kk : G p l e R s m args below meth c nL A cells slots Q (pc + 1) lv (.int (iI n) :: st) Wp) : G p l e R s m args below meth c nL A cells slots Q pc lv (.ref a :: st) Wp := by
  refine g_alen S hK (n := n.toNat) (x := 0) 0 rfl hw hd ?_
  rw [show ((n.toNat : Nat) : Int) = n by omega]; exact kk
theorem g_lenR (S : CallFix p m c cc nL s args Ts own) (hK : KC E s) {t : Nat} (ht : t = 3 ∨ t = 4) {a : Nat} {n : Int} {f : Int → Nat} (hw : ∀ H, Wp H → vR E t a n f H) (hn : 0 ≤ n) (hd : decode cc pc = .ok (.arraylength, 1)) (kk : G p l e R s m args below meth c nL A cells slots Q (pc + 1) lv (.int (iI n) :: st) Wp) : G p l e R s m args below meth c nL A cells slots Q pc lv (.ref a :: st) Wp := by
  refine g_alen S hK (n := n.toNat) (x := 0) t (oa_ty ht) hw hd ?_
  rw [show ((n.toNat : Nat) : Int) = n by omega]; exact kk
theorem g_newIZ (S : CallFix p m c cc nL s args Ts own) (hK : KC E s) {n : Int} {a : Nat} (harr : (Cond.arrayClass .int).before args s = true) (hn : 0 ≤ n ∧ n ≤ 1000) (hcs : cells + 1 ≤ R.cells ∧ slots + n.toNat ≤ R.slots) (hsz : ∀ H, Wp H → H.size = a)
    (hW : ∀ (H H' : Heap), Wp H → vI E a n (fun _ => 0) H' → H'.size = a + 1 → (∀ q : Nat, q < a → H'[q]? = H[q]?) → Wp' H') (hd : decode cc pc = .ok (.newarray .int, 2))
    (kk : G p l e R s m args below meth c nL A (cells + 1) (slots + n.toNat) Q (pc + 2) lv (.ref a :: st) Wp') : G p l e R s m args below meth c nL A cells slots Q pc lv (.int (iI n) :: st) Wp := by
  have kk2 := g_newIK S hK (n := n.toNat) harr (by omega) hcs hsz hW hd kk
  rw [show ((n.toNat : Nat) : Int) = n by omega] at kk2
  exact kk2
theorem g_newZZ (S : CallFix p m c cc nL s args Ts own) (hK : KC E s) {n : Int} {a : Nat} (harr : (Cond.arrayClass .boolean).before args s = true) (hn : 0 ≤ n ∧ n ≤ 1000) (hcs : cells + 1 ≤ R.cells ∧ slots + n.toNat ≤ R.slots) (hsz : ∀ H, Wp H → H.size = a)
    (hW : ∀ (H H' : Heap), Wp H → vZ E a n (fun _ => 0) H' → H'.size = a + 1 → (∀ q : Nat, q < a → H'[q]? = H[q]?) → Wp' H') (hd : decode cc pc = .ok (.newarray .boolean, 2))
    (kk : G p l e R s m args below meth c nL A (cells + 1) (slots + n.toNat) Q (pc + 2) lv (.ref a :: st) Wp') : G p l e R s m args below meth c nL A cells slots Q pc lv (.int (iI n) :: st) Wp := by
  intro H locs ls hl h hS
  have hz := hsz H h
  refine va_newaK (atype := .boolean) (N := n.toNat) S.1 S.2.1 harr rfl hd rfl ?_ ?_ ?_ hcs.1 hcs.2 hz fun H1 cA e1 z1 o1 hAr hNm => ?_
  · rw [← iI_0, iI_lt (by omega)]; omega
  · rw [iI_cl (by omega) (by omega)]
  · show n.toNat * 1 ≤ 536870912; omega
  · have hE : s.vm.findClass ("[" ++ (FieldType.boolean).toString) = some (E.2 2) := (hK.2 2 _ rfl).2
    have ec : cA = E.2 2 := Option.some.inj (hNm.symm.trans hE)
    subst ec
    have h0 := hS.1
    refine kk H1 locs ls hl (hW H H1 h ?_ z1 o1) ⟨by omega, fun q q1 q2 => (o1 q (by omega)).trans (hS.2.1 q q1 q2), hS.2.2⟩
    show H1[a]? = some (vp_cell _ _)
    rw [e1]
    exact congrArg some rfl
theorem g_areq {x : Nat} {t : FieldType} (S : CallFix p m c cc nL s args Ts own) (hr : meth.sig.returnType = some (.array t)) (hlocks : meth.locks = false) (hd : decode cc pc = .ok (.areturn, 1)) (hW : ∀ H, Wp H → Wp' H) : G p l e R s m args below meth c nL A cells slots (MQ below (QW (some (.ref x)) Wp' A) args s cells slots A) pc lv [.ref x] Wp :=
  fun H locs ls hl h hS => W.aret S.1 S.2.1 hr (Or.inr ⟨_, rfl⟩) (Or.inr ⟨_, rfl⟩) (fun t ht _ => ⟨rfl, ht ▸ hW H h, hS.F ht⟩) hS.2.2 hd hlocks
theorem g_arer {x : Nat} {t : FieldType} {P : Nat → Heap → Prop} (S : CallFix p m c cc nL s args Ts own) (hr : meth.sig.returnType = some (.array t)) (hlocks : meth.locks = false) (hd : decode cc pc = .ok (.areturn, 1)) (hW : ∀ H, Wp H → P x H) : G p l e R s m args below meth c nL A cells slots (MQ below (QR P A) args s cells slots A) pc lv [.ref x] Wp :=
  fun H locs ls hl h hS => W.aret S.1 S.2.1 hr (Or.inr ⟨_, rfl⟩) (Or.inr ⟨_, rfl⟩) (fun t ht _ => ⟨x, rfl, ht ▸ hW H h, hS.F ht⟩) hS.2.2 hd hlocks
variable {y : MethodName} {bytes : ByteArray} {maxL n index mc ms : Nat} {ret : Option FieldType} {ws : List Cond} {rm : Room} {As stk stk' : List Value} {b ci : Nat} {fs : List Value} {r : vw_C} {ov : Option Value} {W1 W2 : Heap → Prop} {A1 : Nat → Prop} {P Wn : Nat → Heap → Prop}
theorem g_afterR {Qa : Array Value} (hr : ∀ (H : Heap) (locs : List Loc) (ls : Array Slot), lv_has ls nL lv → Wp H → va_Run p l e R s m args below meth c H locs cells slots mc ms (F0 m pc ls stk) st (QR P A1 Qa) A1) (hA : ∀ q, A1 q → A q) (hW2 : ∀ (x : Nat) (H H' : Heap), Wp H → P x H' → H.size ≤ H'.size → (∀ q : Nat, q < H.size → ¬ A1 q → H'[q]? = H[q]?) → Wn x H') (kk : ∀ x : Nat, G p l e R s m args below meth c nL A (cells + mc) (slots + ms) Q (pc + 3) lv (.ref x :: st) (Wn x)) : G p l e R s m args below meth c nL A cells slots Q pc lv stk Wp := by
  intro H locs ls hl h hS T hT X
  obtain ⟨v, st₀, t, T', L, h0, X', hL, e1, e2, ⟨x, hv, hw2, hF⟩, stp⟩ := hr H locs ls hl h T hT X
  cases hv
  obtain ⟨k1, k2, k3⟩ := vx_keep h0 e1 hS (fun q _ hq => hA q hq) hA hL hF
  obtain ⟨t2, a1, b1⟩ := kk x T'.heap (locs ++ L) ls hl (hW2 x H T'.heap h (e1 ▸ hw2) k1 k2) k3 T' rfl X'
  exact ⟨t2, stp t2 a1, b1⟩
theorem g_callSS (S : CallFix p m c cc nL s args Ts own) (hK : KC E s) (hO : OA s) (hM : Met l y ws rm (CS E As W1) (QW ov W2 A1) mc ms A1) (cw : CallB R s args own index y bytes maxL ret ws rm mc ms n ∧ (Cond.static y).before args s = true) (hst : stk = As.reverse ++ st) (hst2 : ov.toList ++ st = stk') (hn : As.length = n) (hrm : (st.map fun v => v.category).sum ≤ 8) (hcs : cells + mc ≤ R.cells ∧ slots + ms ≤ R.slots) (hA : ∀ q, A1 q → A q) (hW : ∀ H, Wp H → W1 H) (hW2 : ∀ H H', Wp H → W2 H' → H.size ≤ H'.size → (∀ q : Nat, q < H.size → ¬ A1 q → H'[q]? = H[q]?) → Wp' H') (hd : decode cc pc = .ok (.invokestatic index, 3)) (kk : G p l e R s m args below meth c nL A (cells + mc) (slots + ms) Q (pc + 3) lv stk' Wp') : G p l e R s m args below meth c nL A cells slots Q pc lv stk Wp :=
  g_after (Qa := As.toArray) (fun H locs ls hl h => va_runS S hM cw ⟨CS_blind, fun U hU hWm => ⟨rfl, va_K.moved hWm.alike hK, by rw [hU]; exact hW H h, OA.moved hWm.alike hO⟩⟩ rfl hn hl.1 hst (lv_room hrm) hd hcs) hA hW2 hst2 kk
theorem g_callSR (S : CallFix p m c cc nL s args Ts own) (hK : KC E s) (hO : OA s) (hM : Met l y ws rm (CS E As W1) (QR P A1) mc ms A1) (cw : CallB R s args own index y bytes maxL ret ws rm mc ms n ∧ (Cond.static y).before args s = true) (hst : stk = As.reverse ++ st) (hn : As.length = n) (hrm : (st.map fun v => v.category).sum ≤ 8) (hcs : cells + mc ≤ R.cells ∧ slots + ms ≤ R.slots) (hA : ∀ q, A1 q → A q) (hW : ∀ H, Wp H → W1 H) (hW2 : ∀ (x : Nat) (H H' : Heap), Wp H → P x H' → H.size ≤ H'.size → (∀ q : Nat, q < H.size → ¬ A1 q → H'[q]? = H[q]?) → Wn x H') (hd : decode cc pc = .ok (.invokestatic index, 3)) (kk : ∀ x : Nat, G p l e R s m args below meth c nL A (cells + mc) (slots + ms) Q (pc + 3) lv (.ref x :: st) (Wn x)) : G p l e R s m args below meth c nL A cells slots Q pc lv stk Wp :=
  g_afterR (Qa := As.toArray) (fun H locs ls hl h => va_runS S hM cw ⟨CS_blind, fun U hU hWm => ⟨rfl, va_K.moved hWm.alike hK, by rw [hU]; exact hW H h, OA.moved hWm.alike hO⟩⟩ rfl hn hl.1 hst (lv_room hrm) hd hcs) hA hW2 kk
theorem g_callVS (S : CallFix p m c cc nL s args Ts own) (hK : KC E s) (hO : OA s) (hM : Met l y ws rm (CS E (.ref b :: As) W1) (QW ov W2 A1) mc ms A1) (cw : CallW R s args own r.1 index y bytes maxL ret ws rm mc ms n) (hc : vwCl[ci]? = some r) (hst : stk = As.reverse ++ .ref b :: st) (hst2 : ov.toList ++ st = stk') (hn : As.length = n) (hrm : (st.map fun v => v.category).sum ≤ 8) (hcs : cells + mc ≤ R.cells ∧ slots + ms ≤ R.slots) (hA : ∀ q, A1 q → A q) (hb : ∀ H, Wp H → va_at E.1 vwCl (b, .inr (ci, fs)) H) (hW : ∀ H, Wp H → W1 H) (hW2 : ∀ H H', Wp H → W2 H' → H.size ≤ H'.size → (∀ q : Nat, q < H.size → ¬ A1 q → H'[q]? = H[q]?) → Wp' H') (hd : decode cc pc = .ok (.invokevirtual index, 3)) (kk : G p l e R s m args below meth c nL A (cells + mc) (slots + ms) Q (pc + 3) lv stk' Wp') : G p l e R s m args below meth c nL A cells slots Q pc lv stk Wp :=
  g_after (Qa := (Value.ref b :: As).toArray) (fun H locs ls hl h => va_runV S hM cw ⟨CS_blind, va_recv hK (va1 (hb H h)) (q0 := 0) hc rfl, fun U hU hWm => ⟨rfl, va_K.moved hWm.alike hK, by rw [hU]; exact hW H h, OA.moved hWm.alike hO⟩⟩ rfl hn hl.1 hst (lv_room hrm) hd hcs) hA hW2 hst2 kk
theorem g_callIS (S : CallFix p m c cc nL s args Ts own) (hK : KC E s) (hO : OA s) (hM : Met l y ws rm (CS E (.ref b :: As) W1) (QW none W2 A1) mc ms A1) (cw : CallB R s args own index y bytes maxL none ws rm mc ms n ∧ y.name = "<init>" ∧ (Cond.instanceMethod y).before args s = true) (hst : stk = As.reverse ++ .ref b :: st) (hn : As.length = n) (hrm : (st.map fun v => v.category).sum ≤ 8) (hcs : cells + mc ≤ R.cells ∧ slots + ms ≤ R.slots) (hA : ∀ q, A1 q → A q) (hW : ∀ H, Wp H → W1 H) (hW2 : ∀ H H', Wp H → W2 H' → H.size ≤ H'.size → (∀ q : Nat, q < H.size → ¬ A1 q → H'[q]? = H[q]?) → Wp' H') (hd : decode cc pc = .ok (.invokespecial index, 3)) (kk : G p l e R s m args below meth c nL A (cells + mc) (slots + ms) Q (pc + 3) lv st Wp') : G p l e R s m args below meth c nL A cells slots Q pc lv stk Wp :=
  g_after (ov := none) (Qa := (Value.ref b :: As).toArray) (fun H locs ls hl h => va_runI S hM cw ⟨CS_blind, fun U hU hWm => ⟨rfl, va_K.moved hWm.alike hK, by rw [hU]; exact hW H h, OA.moved hWm.alike hO⟩⟩ rfl hn hl.1 hst (lv_room hrm) hd hcs) hA hW2 rfl kk
end GA
