/-! ARRAYS THAT ARE MADE -/
section GNEW
variable {p : Program} {l : Launch} {e : Env} {R : Room} {s : State} {m : MethodId} {args : Array Value} {below : List Frame} {meth : Method} {c : Code} {nL : Nat} {A : Nat → Prop} {cells slots : Nat} {Q : State → Prop}
variable {cc : ByteArray} {Ts : List Cond} {own : String} {pc : Nat} {lv lv' : List (Nat × Value)} {st : List Value} {Wp Wp' : Heap → Prop} {E : EN}
theorem g_newI (S : CallFix p m c cc nL s args Ts own) (hK : KC E s) {n : Nat} {Wn : Nat → Heap → Prop} (harr : (Cond.arrayClass .int).before args s = true) (hn : n ≤ 1000) (hcs : cells + 1 ≤ R.cells ∧ slots + n ≤ R.slots)
    (hW : ∀ (H H' : Heap), Wp H → va_at E.1 vwCl (H.size, aI (E.2 0) n (fun _ => 0)) H' → (∀ q : Nat, q < H.size → H'[q]? = H[q]?) → Wn H.size H') (hd : decode cc pc = .ok (.newarray .int, 2))
    (kk : ∀ a : Nat, s.heap.size ≤ a → G p l e R s m args below meth c nL A (cells + 1) (slots + n) Q (pc + 2) lv (.ref a :: st) (Wn a)) : G p l e R s m args below meth c nL A cells slots Q pc lv (.int (iI n) :: st) Wp := by
  intro H locs ls hl h hS
  refine va_newaK (atype := .int) (N := n) S.1 S.2.1 harr rfl hd rfl ?_ ?_ ?_ hcs.1 hcs.2 rfl fun H1 cA e1 z1 o1 hAr hNm => ?_
  · rw [← iI_0, iI_lt (by omega)]; omega
  · rw [iI_cl (by omega) (by omega)]; omega
  · show n * 4 ≤ 536870912; omega
  · have hE : s.vm.findClass ("[" ++ (FieldType.int).toString) = some (E.2 0) := (hK.2 0 _ rfl).2
    have ec : cA = E.2 0 := Option.some.inj (hNm.symm.trans hE)
    subst ec
    refine kk H.size hS.1 H1 locs ls hl (hW H H1 h ?_ o1) ⟨Nat.le_trans hS.1 (by omega), fun q q1 q2 => (o1 q (Nat.lt_of_lt_of_le q1 hS.1)).trans (hS.2.1 q q1 q2), hS.2.2⟩
    show H1[H.size]? = some (vp_cell _ _)
    rw [e1]
    exact congrArg some rfl
theorem g_iastF (S : CallFix p m c cc nL s args Ts own) (hK : KC E s) {a n : Nat} {F : Int → Int} {z x : Int} (hw : ∀ H, Wp H → va_at E.1 vwCl (a, aI (E.2 0) n F) H) (hz : 0 ≤ z ∧ z < n) (hn : n ≤ 2147483647) (ha : s.heap.size ≤ a) (hW : ∀ H H', Wp H → va_at E.1 vwCl (a, aI (E.2 0) n (upI F z x)) H' → H'.size = H.size → (∀ q : Nat, q ≠ a → H'[q]? = H[q]?) → Wp' H') (hd : decode cc pc = .ok (.iastore, 1)) (kk : G p l e R s m args below meth c nL A cells slots Q (pc + 1) lv st Wp') : G p l e R s m args below meth c nL A cells slots Q pc lv (.int (iI x) :: .int (iI z) :: .ref a :: st) Wp := by
  intro H locs ls hl h hS
  refine W.iast S.1 S.2.1 (hw H h) ((hK.2 0 _ rfl).1 n (fun j => .int (iI (F j)))) (fun q => by cases q) (by show ¬ (_ ∨ (arrV _ _ _).slots.size ≤ _); rw [arrV_size]; exact iI_in hz hn) rfl rfl hd fun H1 e z1 oq => ?_
  refine fun T hT X => kk H1 locs ls hl (hW H H1 h ?_ z1 oq) ⟨by rw [z1]; exact hS.1, fun q q1 q2 => (oq q (fun w => by rw [w] at q1; exact absurd ha (Nat.not_le_of_lt q1))).trans (hS.2.1 q q1 q2), hS.2.2⟩ T hT (Stand.forget X (fun y hy => by rw [List.mem_singleton.mp hy]; exact ha))
  show H1[a]? = some (vp_cell _ _)
  rw [e]
  exact congrArg some (aI_set hz.1 (by omega))
end GNEW
