/-! ARRAYS THAT ARE MADE -/
section GNEW
variable {p : Program} {l : Launch} {e : Env} {R : Room} {s : State} {m : MethodId} {args : Array Value} {below : List Frame} {meth : Method} {c : Code} {nL : Nat} {A : Nat → Prop} {cells slots : Nat} {Q : State → Prop}
variable {cc : ByteArray} {Ts : List Cond} {own : String} {pc : Nat} {lv lv' : List (Nat × Value)} {st : List Value} {Wp Wp' : Heap → Prop} {E : EN}
theorem g_newI (S : CallFix p m c cc nL s args Ts own) (hK : KC E s) {n : Nat} {Wn : Nat → Heap → Prop} (harr : (Cond.arrayClass .int).before args s = true) (hn : n ≤ 1000) (hcs : cells + 1 ≤ R.cells ∧ slots + n ≤ R.slots)
    (hW : ∀ (H H' : Heap), Wp H → va_at E.1 vwCl (H.size, aI (E.2 0) n (fun _ => 0)) H' → (∀ q : Nat, q < H.size → H'[q]? = H[q]?) → Wn H.size H') (hd : decode cc pc = .ok (.newarray .int, 2))
    (kk : ∀ a : Nat, s.heap.size ≤ a → G p l e R s m args below meth c nL A (cells + 1) (slots + n) Q (pc + 2) lv (.ref a :: st) (Wn a)) : G p l e R s m args below meth c nL A cells slots Q pc lv (.int (iI n) :: st) Wp := by
  intro H locs ls hl h hS
  refine va_newaK (atype := .int) (N := n) S.1 S.2.1 harr rfl hd rfl ?_ ?_ ?_ hcs.1 hcs.2 rfl fun H1 cA e1 z1 o1 hAr hNm => ?_
  · rw [← iI_0, iI_lt (by omega)]; omega
  · rw [iI_cl (by omega) (by omega)]; omega
  · show n * 4 ≤ 536870912; omega
  · have hE : s.vm.findClass ("[" ++ (FieldType.int).toString) = some (E.2 0) := (hK.2 0 _ rfl).2
    have ec : cA = E.2 0 := Option.some.inj (hNm.symm.trans hE)
    subst ec
    refine kk H.size hS.1 H1 locs ls hl (hW H H1 h ?_ o1) ⟨Nat.le_trans hS.1 (by omega), fun q q1 q2 => (o1 q (Nat.lt_of_lt_of_le q1 hS.1)).trans (hS.2.1 q q1 q2), hS.2.2⟩
    show H1[H.size]? = some (vp_cell _ _)
    rw [e1]
    exact congrArg some rfl
theorem g_iastF (S : CallFix p m c cc nL s args Ts own) (hK : KC E s) {a n : Nat} {F : Int → Int} {z x : Int} (hw : ∀ H, Wp H → va_at E.1 vwCl (a, aI (E.2 0) n F) H) (hz : 0 ≤ z ∧ z < n) (hn : n ≤ 2147483647) (ha : s.heap.size ≤ a) (hW : ∀ H H', Wp H → va_at E.1 vwCl (a, aI (E.2 0) n (upI F z x)) H' → H'.size = H.size → (∀ q : Nat, q ≠ a → H'[q]? = H[q]?) → Wp' H') (hd : decode cc pc = .ok (.iastore, 1)) (kk : G p l e R s m args below meth c nL A cells slots Q (pc + 1) lv st Wp') : G p l e R s m args below meth c nL A cells slots Q pc lv (.int (iI x) :: .int (iI z) :: .ref a :: st) Wp := by
  intro H locs ls hl h hS
  refine W.iast S.1 S.2.1 (hw H h) ((hK.2 0 _ rfl).1 n (fun j => .int (iI (F j)))) (fun q => by cases q) (by show ¬ (_ ∨ (arrV _ _ _).slots.size ≤ _); rw [arrV_size]; exact iI_in hz hn) rfl rfl hd fun H1 e z1 oq => ?_
  refine fun T hT X => kk H1 locs ls hl (hW H H1 h ?_ z1 oq) ⟨by rw [z1]; exact hS.1, fun q q1 q2 => (oq q (fun w => by rw [w] at q1; exact absurd ha (Nat.not_le_of_lt q1))).trans (hS.2.1 q q1 q2), hS.2.2⟩ T hT (Stand.forget X (fun y hy => by rw [List.mem_singleton.mp hy]; exact ha))
  show H1[a]? = some (vp_cell _ _)
  rw [e]
  exact congrArg some (aI_set hz.1 (by omega))
end GNEW
/-- the model and an array that a call has made -/
def MD (E : EN) (am : Int → Nat) (th pg n : Int) (on se : Int → Int) (al : Int → Nat) (a N : Nat) (F : Int → Int) (H : Heap) : Prop := (∀ k : Int, 0 ≤ k → k < 4 → am k ≠ a) ∧ MW E am th pg n on se al H ∧ va_at E.1 vwCl (a, aI (E.2 0) N F) H
theorem mw_lt {E : EN} {am : Int → Nat} {th pg n : Int} {on se : Int → Int} {al : Int → Nat} {H : Heap} (h : MW E am th pg n on se al H) {k : Int} (hk : 0 ≤ k ∧ k < 4) : am k < H.size := by
  rcases (show k = 0 ∨ k = 1 ∨ k = 2 ∨ k = 3 by omega) with rfl | rfl | rfl | rfl
  · exact (mw_x h).lt
  · exact (mw_on h).lt
  · exact (mw_se h).lt
  · exact (mw_al h).lt
theorem md_new {E : EN} {am : Int → Nat} {th pg n : Int} {on se : Int → Int} {al : Int → Nat} {N : Nat} {H H' : Heap} (h : MW E am th pg n on se al H) (hv : va_at E.1 vwCl (H.size, aI (E.2 0) N (fun _ => 0)) H') (hq : ∀ q : Nat, q < H.size → H'[q]? = H[q]?) : MD E am th pg n on se al H.size N (fun _ => 0) H' :=
  ⟨fun k k0 k1 => Nat.ne_of_lt (mw_lt h ⟨k0, k1⟩), mw_kept h (fun k hk => hq _ (mw_lt h hk)), hv⟩
theorem md_st {E : EN} {am : Int → Nat} {th pg n : Int} {on se : Int → Int} {al : Int → Nat} {a N : Nat} {F F' : Int → Int} {H H' : Heap} (h : MD E am th pg n on se al a N F H) (hv : va_at E.1 vwCl (a, aI (E.2 0) N F') H') (oq : ∀ q : Nat, q ≠ a → H'[q]? = H[q]?) : MD E am th pg n on se al a N F' H' :=
  ⟨h.1, mw_kept h.2.1 (fun k hk => oq _ (h.1 k hk.1 hk.2)), hv⟩
theorem md_call {E : EN} {am : Int → Nat} {th pg n : Int} {on se : Int → Int} {al : Int → Nat} {a N : Nat} {F : Int → Int} {H H' : Heap} (h : MD E am th pg n on se al a N F H) (h2 : MW E am th pg n on se al H') (hq : ∀ q : Nat, q < H.size → ¬ False → H'[q]? = H[q]?) : MD E am th pg n on se al a N F H' :=
  ⟨h.1, h2, h.2.2.kept (hq a h.2.2.lt id)⟩
def dgF (F : Int → Int) (d : Int64) : Nat → Int64
  | 0 => d
  | k + 1 => dgW (dgF F d k) (iI (F (k : Int))).toInt64
theorem dgF_s (F : Int → Int) (d : Int64) {z : Int} (h : 0 ≤ z) : dgF F d (z + 1).toNat = dgW (dgF F d z.toNat) (iI (F z)).toInt64 := by
  rw [show (z + 1).toNat = z.toNat + 1 by omega]
  show dgW (dgF F d z.toNat) (iI (F ((z.toNat : Nat) : Int))).toInt64 = _
  rw [show ((z.toNat : Nat) : Int) = z by omega]
