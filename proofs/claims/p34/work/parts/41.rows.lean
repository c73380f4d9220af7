/-! build -/
theorem si_born : ∀ j, j < 4 → defaultValue (tyX2 j) = vp_V [.int (iI 0), .null, .null, .null] j := by
  intro j hj
  match j, hj with
  | 0, _ => rfl
  | 1, _ => rfl
  | 2, _ => rfl
  | 3, _ => rfl
theorem JS.mono {E : EN} {ad : Int → Nat} {zc sm : Nat} {n0 n1 : Int} {H : Heap} (h : JS E ad zc sm n1 H) (hn : n0 ≤ n1) : JS E ad zc sm n0 H := by
  obtain ⟨S, sp, se, al, n, pg, ⟨J, A, h1⟩, h2⟩ := h
  exact ⟨S, sp, se, al, n, pg, ⟨J, A, by omega⟩, h2⟩
theorem idiv_nn {a n : Int} (ha : 0 ≤ a ∧ a ≤ 2147483647) (hn : 1 ≤ n ∧ n ≤ 100000) : iI a / iI n = iI (a / n) := by
  have hk0 : 0 ≤ a / n := Int.ediv_nonneg ha.1 (by omega)
  have hk1 : a / n ≤ a := Int.ediv_le_self _ ha.1
  apply Int32.toInt_inj.mp
  rw [Int32.toInt_div, iI_t (by omega), iI_t (by omega), iI_t (by omega), Int.tdiv_eq_ediv_of_nonneg ha.1]
  exact Int.bmod_eq_of_le (by omega) (by omega)
section GJ
variable {p : Program} {l : Launch} {e : Env} {R : Room} {s : State} {m : MethodId} {args : Array Value} {below : List Frame} {meth : Method} {c : Code} {nL : Nat} {A : Nat → Prop} {cells slots : Nat} {Q : State → Prop}
variable {cc : ByteArray} {Ts : List Cond} {own : String} {pc : Nat} {lv lv' : List (Nat × Value)} {st : List Value} {Wp Wp' : Heap → Prop} {E : EN}
theorem g_idiv (S : CallFix p m c cc nL s args Ts own) {x y z : Int32} (hd : decode cc pc = .ok (.idiv, 1)) (hne : ¬ y = 0) (hz : x / y = z) (kk : G p l e R s m args below meth c nL A cells slots Q (pc + 1) lv (.int z :: st) Wp) : G p l e R s m args below meth c nL A cells slots Q pc lv (.int y :: .int x :: st) Wp :=
  fun H locs ls hl hw hS => lv_idiv S.1 S.2.1 hd hne (by rw [hz]; exact kk H locs ls hl hw hS)
/-- the two side by side, by their names -/
theorem g_js {ad : Int → Nat} {zc sm : Nat} {n0 : Int} {V : Heap → Prop} (k : ∀ (z : Nat) (S : SA) (sp : Int → SpT) (se : Int → Int) (al : Int → Nat) (n pg : Int), sm < z → TG zc sm S sp n → JV sp se al n pg → AL2 S al n → n0 ≤ n → G p l e R s m args below meth c nL A cells slots Q pc lv st (fun H => H.size = z ∧ va_at E.1 vwCl (sm, .inr (2, [.int (iI pg), .ref (s3 S), .ref (s1 S), .ref (s2 S)])) H ∧ SX E zc sm S sp se n H ∧ CA E ad sp se al n pg H ∧ V H)) : G p l e R s m args below meth c nL A cells slots Q pc lv st (fun H => JS E ad zc sm n0 H ∧ V H) :=
  fun H locs ls hl ⟨⟨S, sp, se, al, n, pg, ⟨J, hA, hn⟩, ho, hx, hc⟩, hv⟩ hS => k H.size S sp se al n pg ho.lt hx.tg J hA hn H locs ls hl ⟨rfl, ho, hx, hc, hv⟩ hS
end GJ
