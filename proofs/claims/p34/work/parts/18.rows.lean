/-! THE MEAN: answers that may draw -/
def MV (a b : Int) (r : UInt64) : Prop := if b = 0 then r = 0 else alike64 r (FP.ddiv (FP.i2d (iI a)) (FP.i2d (iI b))) = true
abbrev QD (V : UInt64 → Prop) (W2 : Heap → Prop) (A : Nat → Prop) : Array Value → State → Outcome → State → Prop := va_Qd (fun (r : UInt64) (_ : Unit) => V r) (fun _ t => W2 t.heap) A
theorem g_metD {l : Launch} {y : MethodName} {ws ws' : List Cond} {rm : Room} {E : EN} {As : List Value} {W1 W2 : Heap → Prop} {V : UInt64 → Prop} {mc ms : Nat} {A : Nat → Prop} {cc : ByteArray} {maxL : Nat} {ret : Option FieldType} {lv : List (Nat × Value)}
    (hy : plainName y.cls = true) (hw : ws = Cond.code y cc maxL ret :: ws') (hlen : (lg_sl As).length ≤ maxL) (hlv : lv_args 0 As = lv)
    (body : ∀ (p : Program) (e : Env) (s : State) (m : MethodId) (args : Array Value) (below : List Frame) (meth : Method) (c : Code), CallFix p m c cc maxL (s.setDrawn s.drawn) args ws y.cls → KC E (s.setDrawn s.drawn) → meth.sig.returnType = ret → meth.locks = false → G p l e rm (s.setDrawn s.drawn) m args below meth c maxL A 0 0 (MQD lw_cs below (QD V W2 A) args s mc ms A) 0 lv [] W1) :
    MetD lw_cs l y ws rm (CI E As W1) (QD V W2 A) mc ms A := by
  refine MetD.ofW (cc := cc) (maxL := maxL) (ret := ret) hy hw ?_
  intro p e s m args below meth c s₁ B hml hv _
  obtain ⟨rfl, hK, hW1⟩ := hv
  have hl := lv_entry As hlen
  rw [lg_entry_eq]
  subst hlv
  exact body p e s m _ below meth c ⟨B.exec, B.bytes, hml, findClass_of_methodNamed B.named, dr_words (atoms_spec (ws := ws) B.pre) _⟩ hK B.returns B.notSynchronized s.heap [] _ hl hW1 va_S.rf
section GD
variable {p : Program} {l : Launch} {e : Env} {R : Room} {s : State} {m : MethodId} {args : Array Value} {below : List Frame} {meth : Method} {c : Code} {nL : Nat} {A : Nat → Prop} {cells slots : Nat} {Q : State → Prop}
variable {cc : ByteArray} {Ts : List Cond} {own : String} {pc : Nat} {lv lv' : List (Nat × Value)} {st : List Value} {Wp Wp' W2 : Heap → Prop} {E : EN} {V : UInt64 → Prop}
theorem g_i2d (S : CallFix p m c cc nL s args Ts own) {x : Int32} (hd : decode cc pc = .ok (.i2d, 1)) (kk : G p l e R s m args below meth c nL A cells slots Q (pc + 1) lv (.double (FP.i2d x) :: st) Wp) : G p l e R s m args below meth c nL A cells slots Q pc lv (.int x :: st) Wp :=
  fun H locs ls hl h hS => lv_i2d S.1 S.2.1 hd (kk H locs ls hl h hS)
theorem g_ddret {x y : UInt64} (S : CallFix p m c cc nL (s.setDrawn s.drawn) args Ts own) (hr : meth.sig.returnType = some .double) (hlocks : meth.locks = false) (hd : decode cc pc = .ok (.ddiv, 1)) (hd2 : decode cc (pc + 1) = .ok (.dreturn, 1)) (hV : ∀ r, alike64 r (FP.ddiv x y) = true → V r) (hW : ∀ H, Wp H → W2 H) : G p l e R (s.setDrawn s.drawn) m args below meth c nL A cells slots (MQD lw_cs below (QD V W2 A) args s cells slots A) pc lv [.double y, .double x] Wp :=
  fun H locs ls hl h hS => lv_ddiv_any (Drawn.sameBut.refl s.drawn lw_cs) lw_bits S.1 S.2.1 hd (fun r d1 hal hd1 => W.endD hd1 (W.dret S.1 S.2.1 hr (fun t ht _ => ⟨⟨r, (), rfl, hV r hal, by show W2 t.heap; rw [ht]; exact hW H h⟩, hS.F ht⟩) hS.2.2 hd2 hlocks))
theorem g_d0ret {x : UInt64} (S : CallFix p m c cc nL (s.setDrawn s.drawn) args Ts own) (hr : meth.sig.returnType = some .double) (hlocks : meth.locks = false) (hd : decode cc pc = .ok (.dreturn, 1)) (hV : V x) (hW : ∀ H, Wp H → W2 H) : G p l e R (s.setDrawn s.drawn) m args below meth c nL A cells slots (MQD lw_cs below (QD V W2 A) args s cells slots A) pc lv [.double x] Wp :=
  fun H locs ls hl h hS => W.endD (Drawn.sameBut.refl s.drawn lw_cs) (W.dret S.1 S.2.1 hr (fun t ht _ => ⟨⟨x, (), rfl, hV, by show W2 t.heap; rw [ht]; exact hW H h⟩, hS.F ht⟩) hS.2.2 hd hlocks)
end GD
noncomputable abbrev SUMP (sp : Int → SpT) (n : Int) : Int := smI (fun i => PGS (sp i)) n.toNat
noncomputable abbrev CNTP (sp : Int → SpT) (n : Int) : Int := smI (fun i => pI (0 < PGS (sp i))) n.toNat
theorem pgs_b {g : SpT} {pg : Int} (hv : VL g pg) (hp : 0 ≤ pg) : 0 ≤ PGS g ∧ PGS g ≤ pg := by
  rw [show PGS g = _ from pg_sum hv hp]
  exact smI_01 hp (fun _ _ _ => pI_b _)
