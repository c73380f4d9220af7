/-! THE WORLD OF A BookIndex: 86 cells at the addresses ad 0 .. ad 85: 0 the index, 1 its row of Spans, 2 sees, 3 see alsos, 4 tally; then for each of 27 Spans (24 headings, asked, made, noSpans) the object and its two rows -/
abbrev SpT : Type := Int × (Int → Int) × (Int → Int)
def CW (E : EN) (ad : Int → Nat) (sp : Int → SpT) (se : Int → Int) (al : Int → Nat) (ta : Int → Int) (n pg : Int) (H : Heap) : Prop :=
  va_at E.1 vwCl (ad 0, .inr (1, [.ref (ad 1), .ref (ad 2), .ref (ad 3), .ref (ad 4), .ref (ad (5 + 3 * 24)), .ref (ad (5 + 3 * 25)), .ref (ad (5 + 3 * 26)), .int (iI n), .int (iI pg)])) H ∧
  va_at E.1 vwCl (ad 1, aR (E.2 1) 24 (fun k => ad (5 + 3 * k))) H ∧ va_at E.1 vwCl (ad 2, aI (E.2 0) 24 se) H ∧ va_at E.1 vwCl (ad 3, aI (E.2 0) 24 (fun k => ((al k : Nat) : Int))) H ∧ va_at E.1 vwCl (ad 4, aI (E.2 0) 302 ta) H ∧
  ∀ i : Int, 0 ≤ i ∧ i < 27 → va_at E.1 vwCl (ad (5 + 3 * i), .inr (0, [.ref (ad (6 + 3 * i)), .ref (ad (7 + 3 * i)), .int (iI (sp i).1)])) H ∧ va_at E.1 vwCl (ad (6 + 3 * i), aI (E.2 0) 16 (sp i).2.1) H ∧ va_at E.1 vwCl (ad (7 + 3 * i), aI (E.2 0) 16 (sp i).2.2) H
def INJ (ad : Int → Nat) : Prop := ∀ i j : Int, 0 ≤ i → i < 86 → 0 ≤ j → j < 86 → ad i = ad j → i = j
def AX (ad : Int → Nat) : Nat → Prop := fun q => ∃ k : Int, 0 ≤ k ∧ k < 86 ∧ q = ad k
theorem ax_in {ad : Int → Nat} {k : Int} (h : 0 ≤ k ∧ k < 86) : AX ad (ad k) := ⟨k, h.1, h.2, rfl⟩
theorem ad_ne {ad : Int → Nat} (hj : INJ ad) {i j : Int} (h : (0 ≤ i ∧ i < 86) ∧ (0 ≤ j ∧ j < 86) ∧ i ≠ j) : ad i ≠ ad j := fun z => h.2.2 (hj i j h.1.1 h.1.2 h.2.1.1 h.2.1.2 z)
section CWs
variable {E : EN} {ad : Int → Nat} {sp : Int → SpT} {se : Int → Int} {al : Int → Nat} {ta : Int → Int} {n pg : Int} {H H' : Heap}
theorem cw_x (h : CW E ad sp se al ta n pg H) : va_at E.1 vwCl (ad 0, .inr (1, [.ref (ad 1), .ref (ad 2), .ref (ad 3), .ref (ad 4), .ref (ad (5 + 3 * 24)), .ref (ad (5 + 3 * 25)), .ref (ad (5 + 3 * 26)), .int (iI n), .int (iI pg)])) H := h.1
theorem cw_b (h : CW E ad sp se al ta n pg H) : va_at E.1 vwCl (ad 1, aR (E.2 1) 24 (fun k => ad (5 + 3 * k))) H := h.2.1
theorem cw_se (h : CW E ad sp se al ta n pg H) : va_at E.1 vwCl (ad 2, aI (E.2 0) 24 se) H := h.2.2.1
theorem cw_al (h : CW E ad sp se al ta n pg H) : va_at E.1 vwCl (ad 3, aI (E.2 0) 24 (fun k => ((al k : Nat) : Int))) H := h.2.2.2.1
theorem cw_ta (h : CW E ad sp se al ta n pg H) : va_at E.1 vwCl (ad 4, aI (E.2 0) 302 ta) H := h.2.2.2.2.1
theorem cw_o (h : CW E ad sp se al ta n pg H) {i : Int} (hi : 0 ≤ i ∧ i < 27) {g : SpT} (hg : sp i = g) : va_at E.1 vwCl (ad (5 + 3 * i), .inr (0, [.ref (ad (6 + 3 * i)), .ref (ad (7 + 3 * i)), .int (iI g.1)])) H := by
  subst hg
  exact (h.2.2.2.2.2 i hi).1
theorem cw_f (h : CW E ad sp se al ta n pg H) {i : Int} (hi : 0 ≤ i ∧ i < 27) {g : SpT} (hg : sp i = g) : va_at E.1 vwCl (ad (6 + 3 * i), aI (E.2 0) 16 g.2.1) H := by
  subst hg
  exact (h.2.2.2.2.2 i hi).2.1
theorem cw_l (h : CW E ad sp se al ta n pg H) {i : Int} (hi : 0 ≤ i ∧ i < 27) {g : SpT} (hg : sp i = g) : va_at E.1 vwCl (ad (7 + 3 * i), aI (E.2 0) 16 g.2.2) H := by
  subst hg
  exact (h.2.2.2.2.2 i hi).2.2
theorem cw_kept (h : CW E ad sp se al ta n pg H) (oq : ∀ k : Int, 0 ≤ k ∧ k < 86 → H'[ad k]? = H[ad k]?) : CW E ad sp se al ta n pg H' :=
  ⟨h.1.kept (oq 0 (by omega)), h.2.1.kept (oq 1 (by omega)), h.2.2.1.kept (oq 2 (by omega)), h.2.2.2.1.kept (oq 3 (by omega)), h.2.2.2.2.1.kept (oq 4 (by omega)), fun i hi => ⟨(h.2.2.2.2.2 i hi).1.kept (oq _ (by omega)), (h.2.2.2.2.2 i hi).2.1.kept (oq _ (by omega)), (h.2.2.2.2.2 i hi).2.2.kept (oq _ (by omega))⟩⟩
theorem cw_eq {sp' : Int → SpT} {se' : Int → Int} {al' : Int → Nat} {ta' : Int → Int} {n' pg' : Int} (h : CW E ad sp se al ta n pg H) (h1 : ∀ i, sp i = sp' i) (h2 : ∀ i, se i = se' i) (h3 : ∀ i, al i = al' i) (h4 : ∀ i, ta i = ta' i) (h5 : n = n') (h6 : pg = pg') : CW E ad sp' se' al' ta' n' pg' H := by
  have e1 : sp = sp' := funext h1
  have e2 : se = se' := funext h2
  have e3 : al = al' := funext h3
  have e4 : ta = ta' := funext h4
  subst e1; subst e2; subst e3; subst e4; subst h5; subst h6
  exact h
/-- the writes -/
theorem cw_sO (hj : INJ ad) (h : CW E ad sp se al ta n pg H) {i : Int} (hi : 0 ≤ i ∧ i < 27) {g : SpT} (hg : sp i = g) {c' : Int} (hv : va_at E.1 vwCl (ad (5 + 3 * i), .inr (0, [.ref (ad (6 + 3 * i)), .ref (ad (7 + 3 * i)), .int (iI c')])) H') (oq : ∀ q : Nat, q ≠ ad (5 + 3 * i) → H'[q]? = H[q]?) : CW E ad (upI sp i (c', g.2.1, g.2.2)) se al ta n pg H' := by
  subst hg
  refine ⟨h.1.kept (oq _ (ad_ne hj (by omega))), h.2.1.kept (oq _ (ad_ne hj (by omega))), h.2.2.1.kept (oq _ (ad_ne hj (by omega))), h.2.2.2.1.kept (oq _ (ad_ne hj (by omega))), h.2.2.2.2.1.kept (oq _ (ad_ne hj (by omega))), fun j hj2 => ?_⟩
  by_cases e : j = i
  · subst e
    rw [upI_s]
    exact ⟨hv, (h.2.2.2.2.2 j hj2).2.1.kept (oq _ (ad_ne hj (by omega))), (h.2.2.2.2.2 j hj2).2.2.kept (oq _ (ad_ne hj (by omega)))⟩
  · rw [upI_n _ _ e]
    exact ⟨(h.2.2.2.2.2 j hj2).1.kept (oq _ (ad_ne hj (by omega))), (h.2.2.2.2.2 j hj2).2.1.kept (oq _ (ad_ne hj (by omega))), (h.2.2.2.2.2 j hj2).2.2.kept (oq _ (ad_ne hj (by omega)))⟩
theorem cw_sF (hj : INJ ad) (h : CW E ad sp se al ta n pg H) {i : Int} (hi : 0 ≤ i ∧ i < 27) {g : SpT} (hg : sp i = g) {F' : Int → Int} (hv : va_at E.1 vwCl (ad (6 + 3 * i), aI (E.2 0) 16 F') H') (oq : ∀ q : Nat, q ≠ ad (6 + 3 * i) → H'[q]? = H[q]?) : CW E ad (upI sp i (g.1, F', g.2.2)) se al ta n pg H' := by
  subst hg
  refine ⟨h.1.kept (oq _ (ad_ne hj (by omega))), h.2.1.kept (oq _ (ad_ne hj (by omega))), h.2.2.1.kept (oq _ (ad_ne hj (by omega))), h.2.2.2.1.kept (oq _ (ad_ne hj (by omega))), h.2.2.2.2.1.kept (oq _ (ad_ne hj (by omega))), fun j hj2 => ?_⟩
  by_cases e : j = i
  · subst e
    rw [upI_s]
    exact ⟨(h.2.2.2.2.2 j hj2).1.kept (oq _ (ad_ne hj (by omega))), hv, (h.2.2.2.2.2 j hj2).2.2.kept (oq _ (ad_ne hj (by omega)))⟩
  · rw [upI_n _ _ e]
    exact ⟨(h.2.2.2.2.2 j hj2).1.kept (oq _ (ad_ne hj (by omega))), (h.2.2.2.2.2 j hj2).2.1.kept (oq _ (ad_ne hj (by omega))), (h.2.2.2.2.2 j hj2).2.2.kept (oq _ (ad_ne hj (by omega)))⟩
theorem cw_sL (hj : INJ ad) (h : CW E ad sp se al ta n pg H) {i : Int} (hi : 0 ≤ i ∧ i < 27) {g : SpT} (hg : sp i = g) {F' : Int → Int} (hv : va_at E.1 vwCl (ad (7 + 3 * i), aI (E.2 0) 16 F') H') (oq : ∀ q : Nat, q ≠ ad (7 + 3 * i) → H'[q]? = H[q]?) : CW E ad (upI sp i (g.1, g.2.1, F')) se al ta n pg H' := by
  subst hg
  refine ⟨h.1.kept (oq _ (ad_ne hj (by omega))), h.2.1.kept (oq _ (ad_ne hj (by omega))), h.2.2.1.kept (oq _ (ad_ne hj (by omega))), h.2.2.2.1.kept (oq _ (ad_ne hj (by omega))), h.2.2.2.2.1.kept (oq _ (ad_ne hj (by omega))), fun j hj2 => ?_⟩
  by_cases e : j = i
  · subst e
    rw [upI_s]
    exact ⟨(h.2.2.2.2.2 j hj2).1.kept (oq _ (ad_ne hj (by omega))), (h.2.2.2.2.2 j hj2).2.1.kept (oq _ (ad_ne hj (by omega))), hv⟩
  · rw [upI_n _ _ e]
    exact ⟨(h.2.2.2.2.2 j hj2).1.kept (oq _ (ad_ne hj (by omega))), (h.2.2.2.2.2 j hj2).2.1.kept (oq _ (ad_ne hj (by omega))), (h.2.2.2.2.2 j hj2).2.2.kept (oq _ (ad_ne hj (by omega)))⟩
theorem cw_sX (hj : INJ ad) (h : CW E ad sp se al ta n pg H) {n' pg' : Int} (hv : va_at E.1 vwCl (ad 0, .inr (1, [.ref (ad 1), .ref (ad 2), .ref (ad 3), .ref (ad 4), .ref (ad (5 + 3 * 24)), .ref (ad (5 + 3 * 25)), .ref (ad (5 + 3 * 26)), .int (iI n'), .int (iI pg')])) H') (oq : ∀ q : Nat, q ≠ ad 0 → H'[q]? = H[q]?) : CW E ad sp se al ta n' pg' H' :=
  ⟨hv, h.2.1.kept (oq _ (ad_ne hj (by omega))), h.2.2.1.kept (oq _ (ad_ne hj (by omega))), h.2.2.2.1.kept (oq _ (ad_ne hj (by omega))), h.2.2.2.2.1.kept (oq _ (ad_ne hj (by omega))), fun i hi => ⟨(h.2.2.2.2.2 i hi).1.kept (oq _ (ad_ne hj (by omega))), (h.2.2.2.2.2 i hi).2.1.kept (oq _ (ad_ne hj (by omega))), (h.2.2.2.2.2 i hi).2.2.kept (oq _ (ad_ne hj (by omega)))⟩⟩
theorem cw_sSe (hj : INJ ad) (h : CW E ad sp se al ta n pg H) {F' : Int → Int} (hv : va_at E.1 vwCl (ad 2, aI (E.2 0) 24 F') H') (oq : ∀ q : Nat, q ≠ ad 2 → H'[q]? = H[q]?) : CW E ad sp F' al ta n pg H' :=
  ⟨h.1.kept (oq _ (ad_ne hj (by omega))), h.2.1.kept (oq _ (ad_ne hj (by omega))), hv, h.2.2.2.1.kept (oq _ (ad_ne hj (by omega))), h.2.2.2.2.1.kept (oq _ (ad_ne hj (by omega))), fun i hi => ⟨(h.2.2.2.2.2 i hi).1.kept (oq _ (ad_ne hj (by omega))), (h.2.2.2.2.2 i hi).2.1.kept (oq _ (ad_ne hj (by omega))), (h.2.2.2.2.2 i hi).2.2.kept (oq _ (ad_ne hj (by omega)))⟩⟩
theorem cw_sAl (hj : INJ ad) (h : CW E ad sp se al ta n pg H) {k : Int} {v : Nat} (hv : va_at E.1 vwCl (ad 3, aI (E.2 0) 24 (upI (fun k => ((al k : Nat) : Int)) k (v : Int))) H') (oq : ∀ q : Nat, q ≠ ad 3 → H'[q]? = H[q]?) : CW E ad sp se (upI al k v) ta n pg H' := by
  have e : upI (fun k => ((al k : Nat) : Int)) k (v : Int) = (fun j => ((upI al k v j : Nat) : Int)) := by
    funext j
    by_cases q : j = k
    · subst q; rw [upI_s, upI_s]
    · rw [upI_n _ _ q, upI_n _ _ q]
  rw [e] at hv
  exact ⟨h.1.kept (oq _ (ad_ne hj (by omega))), h.2.1.kept (oq _ (ad_ne hj (by omega))), h.2.2.1.kept (oq _ (ad_ne hj (by omega))), hv, h.2.2.2.2.1.kept (oq _ (ad_ne hj (by omega))), fun i hi => ⟨(h.2.2.2.2.2 i hi).1.kept (oq _ (ad_ne hj (by omega))), (h.2.2.2.2.2 i hi).2.1.kept (oq _ (ad_ne hj (by omega))), (h.2.2.2.2.2 i hi).2.2.kept (oq _ (ad_ne hj (by omega)))⟩⟩
theorem cw_sTa (hj : INJ ad) (h : CW E ad sp se al ta n pg H) {F' : Int → Int} (hv : va_at E.1 vwCl (ad 4, aI (E.2 0) 302 F') H') (oq : ∀ q : Nat, q ≠ ad 4 → H'[q]? = H[q]?) : CW E ad sp se al F' n pg H' :=
  ⟨h.1.kept (oq _ (ad_ne hj (by omega))), h.2.1.kept (oq _ (ad_ne hj (by omega))), h.2.2.1.kept (oq _ (ad_ne hj (by omega))), h.2.2.2.1.kept (oq _ (ad_ne hj (by omega))), hv, fun i hi => ⟨(h.2.2.2.2.2 i hi).1.kept (oq _ (ad_ne hj (by omega))), (h.2.2.2.2.2 i hi).2.1.kept (oq _ (ad_ne hj (by omega))), (h.2.2.2.2.2 i hi).2.2.kept (oq _ (ad_ne hj (by omega)))⟩⟩
end CWs
theorem upI_u {α : Type} (f : Int → α) (k : Int) (v w : α) : upI (upI f k v) k w = upI f k w := by
  funext j
  by_cases q : j = k
  · subst q; rw [upI_s, upI_s]
  · rw [upI_n _ _ q, upI_n _ _ q, upI_n _ _ q]
theorem upI_x {α : Type} (f : Int → α) {k : Int} {v : α} (h : f k = v) : upI f k v = f := by
  funext j
  by_cases q : j = k
  · subst q; rw [upI_s, h]
  · rw [upI_n _ _ q]
noncomputable def pI (P : Prop) : Int := @ite Int P (Classical.propDecidable P) 1 0
theorem pI_t {P : Prop} (h : P) : pI P = 1 := by unfold pI; exact if_pos h
theorem pI_f {P : Prop} (h : ¬ P) : pI P = 0 := by unfold pI; exact if_neg h
theorem pI_01 (P : Prop) : pI P = 0 ∨ pI P = 1 := by
  by_cases h : P
  · exact Or.inr (pI_t h)
  · exact Or.inl (pI_f h)
theorem pI_c {P Q : Prop} (h : P ↔ Q) : pI P = pI Q := by rw [propext h]
/-! WHAT A Spans HOLDS, and what its calls make of it: number, firsts, lasts -/
def bnd (x : Int) : Prop := -100000 ≤ x ∧ x ≤ 100000
def WB (g : SpT) : Prop := 0 ≤ g.1 ∧ g.1 ≤ 16 ∧ ∀ k : Int, 0 ≤ k → k < g.1 → bnd (g.2.1 k) ∧ bnd (g.2.2 k)
def cov (g : SpT) (p : Int) : Prop := ∃ k : Int, 0 ≤ k ∧ k < g.1 ∧ g.2.1 k ≤ p ∧ p ≤ g.2.2 k
def smI (f : Int → Int) : Nat → Int
  | 0 => 0
  | n + 1 => smI f n + f n
noncomputable def apd (g : SpT) (f l gap : Int) : SpT :=
  if 0 < g.1 ∧ f - g.2.2 (g.1 - 1) - 1 ≤ gap then (g.1, g.2.1, upI g.2.2 (g.1 - 1) (max (g.2.2 (g.1 - 1)) l))
  else if g.1 < 16 then (g.1 + 1, upI g.2.1 g.1 f, upI g.2.2 g.1 l) else g
noncomputable def ape (g : SpT) (f l : Int) : SpT := if f ≤ l then apd g f l 0 else g
noncomputable def brg (o : SpT) (gap : Int) (g : SpT) : Nat → SpT
  | 0 => g
  | k + 1 => apd (brg o gap g k) (o.2.1 k) (o.2.2 k) gap
noncomputable def rst (o : SpT) (a b : Int) (g : SpT) : Nat → SpT
  | 0 => g
  | k + 1 => ape (ape (rst o a b g k) (o.2.1 k) (min (o.2.2 k) (a - 1))) (max (o.2.1 k) (b + 1)) (o.2.2 k)
noncomputable def wpo (o : SpT) (p : Int) (g : SpT) : Nat → SpT
  | 0 => g
  | k + 1 => ape (wpo o p g k) (if p < o.2.1 k then o.2.1 k - 1 else o.2.1 k) (if p ≤ o.2.2 k then o.2.2 k - 1 else o.2.2 k)
def mvd (g : SpT) (p m : Int) (j : Int) : SpT := (g.1, (fun k => if 0 ≤ k ∧ k < j ∧ p ≤ g.2.1 k then g.2.1 k + m else g.2.1 k), (fun k => if 0 ≤ k ∧ k < j ∧ p ≤ g.2.2 k then g.2.2 k + m else g.2.2 k))
def spF (g : SpT) (k : Int) : Int := if 0 ≤ k ∧ k < g.1 then g.2.1 k else 0
def spL (g : SpT) (k : Int) : Int := if 0 ≤ k ∧ k < g.1 then g.2.2 k else 0
/-- the walk of pagesInCommon: left, mine, theirs, the sum -/
noncomputable def pic (g o : SpT) : Nat → Int → Int → Int → Int
  | 0, _, _, s => s
  | n + 1, a, b, s => if a < g.1 ∧ b < o.1 then
      (if g.2.2 a ≤ o.2.2 b then pic g o n (a + 1) b (s + max 0 (min (g.2.2 a) (o.2.2 b) - max (g.2.1 a) (o.2.1 b) + 1))
       else pic g o n a (b + 1) (s + max 0 (min (g.2.2 a) (o.2.2 b) - max (g.2.1 a) (o.2.1 b) + 1))) else s
/-- the walk of becomeUnion: left, ones, others, what is made -/
noncomputable def uni (x o : SpT) : Nat → Int → Int → SpT → SpT
  | 0, _, _, g => g
  | n + 1, a, b, g => if o.1 ≤ b ∨ (a < x.1 ∧ x.2.1 a ≤ o.2.1 b) then uni x o n (a + 1) b (apd g (spF x a) (spL x a) 0)
      else uni x o n a (b + 1) (apd g (spF o b) (spL o b) 0)
theorem apd_wb {g : SpT} {f l gap : Int} (h : WB g) (hf : bnd f) (hl : bnd l) : WB (apd g f l gap) := by
  obtain ⟨h0, h1, h2⟩ := h
  unfold apd
  by_cases c : 0 < g.1 ∧ f - g.2.2 (g.1 - 1) - 1 ≤ gap
  · rw [if_pos c]
    refine ⟨h0, h1, fun k k0 k1 => ⟨(h2 k k0 k1).1, ?_⟩⟩
    show bnd (upI g.2.2 (g.1 - 1) _ k)
    by_cases e : k = g.1 - 1
    · subst e
      rw [upI_s]
      have h3 := (h2 _ k0 k1).2
      unfold bnd at *
      omega
    · rw [upI_n _ _ e]
      exact (h2 k k0 k1).2
  · rw [if_neg c]
    by_cases c2 : g.1 < 16
    · rw [if_pos c2]
      refine ⟨by show 0 ≤ g.1 + 1; omega, by show g.1 + 1 ≤ 16; omega, fun k k0 k1 => ?_⟩
      have k1 : k < g.1 + 1 := k1
      by_cases e : k = g.1
      · subst e
        refine ⟨?_, ?_⟩
        · show bnd (upI g.2.1 g.1 f g.1); rw [upI_s]; exact hf
        · show bnd (upI g.2.2 g.1 l g.1); rw [upI_s]; exact hl
      · have h3 := h2 k k0 (by omega)
        refine ⟨?_, ?_⟩
        · show bnd (upI g.2.1 g.1 f k); rw [upI_n _ _ e]; exact h3.1
        · show bnd (upI g.2.2 g.1 l k); rw [upI_n _ _ e]; exact h3.2
    · rw [if_neg c2]
      exact ⟨h0, h1, h2⟩
theorem ape_wb {g : SpT} {f l : Int} (h : WB g) (hf : bnd f) (hl : bnd l) : WB (ape g f l) := by
  unfold ape
  by_cases c : f ≤ l
  · rw [if_pos c]; exact apd_wb h hf hl
  · rw [if_neg c]; exact h
theorem smI_s (f : Int → Int) {z : Int} (h : 0 ≤ z) : smI f (z + 1).toNat = smI f z.toNat + f z := by
  rw [show (z + 1).toNat = z.toNat + 1 by omega]
  show smI f z.toNat + f ((z.toNat : Nat) : Int) = _
  rw [Int.toNat_of_nonneg h]
theorem brg_s (o : SpT) (gap : Int) (g : SpT) {z : Int} (h : 0 ≤ z) : brg o gap g (z + 1).toNat = apd (brg o gap g z.toNat) (o.2.1 z) (o.2.2 z) gap := by
  rw [show (z + 1).toNat = z.toNat + 1 by omega]
  show apd (brg o gap g z.toNat) (o.2.1 ((z.toNat : Nat) : Int)) (o.2.2 ((z.toNat : Nat) : Int)) gap = _
  rw [Int.toNat_of_nonneg h]
theorem rst_s (o : SpT) (a b : Int) (g : SpT) {z : Int} (h : 0 ≤ z) : rst o a b g (z + 1).toNat = ape (ape (rst o a b g z.toNat) (o.2.1 z) (min (o.2.2 z) (a - 1))) (max (o.2.1 z) (b + 1)) (o.2.2 z) := by
  rw [show (z + 1).toNat = z.toNat + 1 by omega]
  show ape (ape (rst o a b g z.toNat) (o.2.1 ((z.toNat : Nat) : Int)) (min (o.2.2 ((z.toNat : Nat) : Int)) (a - 1))) (max (o.2.1 ((z.toNat : Nat) : Int)) (b + 1)) (o.2.2 ((z.toNat : Nat) : Int)) = _
  rw [Int.toNat_of_nonneg h]
theorem wpo_s (o : SpT) (p : Int) (g : SpT) {z : Int} (h : 0 ≤ z) : wpo o p g (z + 1).toNat = ape (wpo o p g z.toNat) (if p < o.2.1 z then o.2.1 z - 1 else o.2.1 z) (if p ≤ o.2.2 z then o.2.2 z - 1 else o.2.2 z) := by
  rw [show (z + 1).toNat = z.toNat + 1 by omega]
  show ape (wpo o p g z.toNat) (if p < o.2.1 ((z.toNat : Nat) : Int) then o.2.1 ((z.toNat : Nat) : Int) - 1 else o.2.1 ((z.toNat : Nat) : Int)) (if p ≤ o.2.2 ((z.toNat : Nat) : Int) then o.2.2 ((z.toNat : Nat) : Int) - 1 else o.2.2 ((z.toNat : Nat) : Int)) = _
  rw [Int.toNat_of_nonneg h]
theorem spF_bnd {g : SpT} (h : WB g) (k : Int) : bnd (spF g k) := by
  unfold spF
  by_cases c : 0 ≤ k ∧ k < g.1
  · rw [if_pos c]; exact (h.2.2 k c.1 c.2).1
  · rw [if_neg c]; unfold bnd; omega
theorem spL_bnd {g : SpT} (h : WB g) (k : Int) : bnd (spL g k) := by
  unfold spL
  by_cases c : 0 ≤ k ∧ k < g.1
  · rw [if_pos c]; exact (h.2.2 k c.1 c.2).2
  · rw [if_neg c]; unfold bnd; omega
theorem wb0 (f l : Int → Int) : WB (0, f, l) := ⟨Int.le_refl _, by show (0 : Int) ≤ 16; decide, fun k h0 h1 => by have h1 : k < 0 := h1; omega⟩
theorem mvd_F {g : SpT} {p m z : Int} (hz : 0 ≤ z) (c : p ≤ g.2.1 z) : upI (mvd g p m z).2.1 z (g.2.1 z + m) = (mvd g p m (z + 1)).2.1 := by
  funext k
  show upI _ z _ k = if 0 ≤ k ∧ k < z + 1 ∧ p ≤ g.2.1 k then g.2.1 k + m else g.2.1 k
  by_cases e : k = z
  · subst e; rw [upI_s, if_pos (by omega)]
  · rw [upI_n _ _ e]
    show (if 0 ≤ k ∧ k < z ∧ p ≤ g.2.1 k then g.2.1 k + m else g.2.1 k) = _
    by_cases c2 : 0 ≤ k ∧ k < z ∧ p ≤ g.2.1 k
    · rw [if_pos c2, if_pos (by omega)]
    · rw [if_neg c2, if_neg (by omega)]
theorem mvd_F0 {g : SpT} {p m z : Int} (c : g.2.1 z < p) : (mvd g p m z).2.1 = (mvd g p m (z + 1)).2.1 := by
  funext k
  show (if 0 ≤ k ∧ k < z ∧ p ≤ g.2.1 k then g.2.1 k + m else g.2.1 k) = if 0 ≤ k ∧ k < z + 1 ∧ p ≤ g.2.1 k then g.2.1 k + m else g.2.1 k
  by_cases e : k = z
  · subst e; rw [if_neg (by omega), if_neg (by omega)]
  · by_cases c2 : 0 ≤ k ∧ k < z ∧ p ≤ g.2.1 k
    · rw [if_pos c2, if_pos (by omega)]
    · rw [if_neg c2, if_neg (by omega)]
theorem mvd_L {g : SpT} {p m z : Int} (hz : 0 ≤ z) (c : p ≤ g.2.2 z) : upI (mvd g p m z).2.2 z (g.2.2 z + m) = (mvd g p m (z + 1)).2.2 := by
  funext k
  show upI _ z _ k = if 0 ≤ k ∧ k < z + 1 ∧ p ≤ g.2.2 k then g.2.2 k + m else g.2.2 k
  by_cases e : k = z
  · subst e; rw [upI_s, if_pos (by omega)]
  · rw [upI_n _ _ e]
    show (if 0 ≤ k ∧ k < z ∧ p ≤ g.2.2 k then g.2.2 k + m else g.2.2 k) = _
    by_cases c2 : 0 ≤ k ∧ k < z ∧ p ≤ g.2.2 k
    · rw [if_pos c2, if_pos (by omega)]
    · rw [if_neg c2, if_neg (by omega)]
theorem mvd_L0 {g : SpT} {p m z : Int} (c : g.2.2 z < p) : (mvd g p m z).2.2 = (mvd g p m (z + 1)).2.2 := by
  funext k
  show (if 0 ≤ k ∧ k < z ∧ p ≤ g.2.2 k then g.2.2 k + m else g.2.2 k) = if 0 ≤ k ∧ k < z + 1 ∧ p ≤ g.2.2 k then g.2.2 k + m else g.2.2 k
  by_cases e : k = z
  · subst e; rw [if_neg (by omega), if_neg (by omega)]
  · by_cases c2 : 0 ≤ k ∧ k < z ∧ p ≤ g.2.2 k
    · rw [if_pos c2, if_pos (by omega)]
    · rw [if_neg c2, if_neg (by omega)]
theorem mvd_0 (g : SpT) (p m : Int) : mvd g p m 0 = g := by
  show (g.1, _, _) = g
  rw [show (fun k : Int => if 0 ≤ k ∧ k < 0 ∧ p ≤ g.2.1 k then g.2.1 k + m else g.2.1 k) = g.2.1 from funext fun k => if_neg (by omega), show (fun k : Int => if 0 ≤ k ∧ k < 0 ∧ p ≤ g.2.2 k then g.2.2 k + m else g.2.2 k) = g.2.2 from funext fun k => if_neg (by omega)]
theorem mvd_f (g : SpT) (p m z : Int) : (mvd g p m z).2.1 z = g.2.1 z := by
  show (if 0 ≤ z ∧ z < z ∧ p ≤ g.2.1 z then g.2.1 z + m else g.2.1 z) = _
  exact if_neg (by omega)
theorem mvd_l (g : SpT) (p m z : Int) : (mvd g p m z).2.2 z = g.2.2 z := by
  show (if 0 ≤ z ∧ z < z ∧ p ≤ g.2.2 z then g.2.2 z + m else g.2.2 z) = _
  exact if_neg (by omega)
theorem pic_a {g o : SpT} {t a b s : Int} (ht : 0 < t) (c1 : a < g.1) (c2 : b < o.1) (c3 : g.2.2 a ≤ o.2.2 b) : pic g o t.toNat a b s = pic g o (t - 1).toNat (a + 1) b (s + max 0 (min (g.2.2 a) (o.2.2 b) - max (g.2.1 a) (o.2.1 b) + 1)) := by
  rw [show t.toNat = (t - 1).toNat + 1 by omega]
  show (if a < g.1 ∧ b < o.1 then _ else s) = _
  rw [if_pos ⟨c1, c2⟩, if_pos c3]
theorem pic_b {g o : SpT} {t a b s : Int} (ht : 0 < t) (c1 : a < g.1) (c2 : b < o.1) (c3 : o.2.2 b < g.2.2 a) : pic g o t.toNat a b s = pic g o (t - 1).toNat a (b + 1) (s + max 0 (min (g.2.2 a) (o.2.2 b) - max (g.2.1 a) (o.2.1 b) + 1)) := by
  rw [show t.toNat = (t - 1).toNat + 1 by omega]
  show (if a < g.1 ∧ b < o.1 then _ else s) = _
  rw [if_pos ⟨c1, c2⟩, if_neg (by omega)]
theorem pic_e {g o : SpT} {t a b s : Int} (c : t ≤ 0 ∨ g.1 ≤ a ∨ o.1 ≤ b) : pic g o t.toNat a b s = s := by
  by_cases h : t ≤ 0
  · rw [show t.toNat = 0 by omega]; rfl
  · rw [show t.toNat = (t - 1).toNat + 1 by omega]
    show (if a < g.1 ∧ b < o.1 then _ else s) = _
    rw [if_neg (by omega)]
theorem uni_a {x o : SpT} {t a b : Int} {g : SpT} (ht : 0 < t) (c : o.1 ≤ b ∨ (a < x.1 ∧ x.2.1 a ≤ o.2.1 b)) : uni x o t.toNat a b g = uni x o (t - 1).toNat (a + 1) b (apd g (spF x a) (spL x a) 0) := by
  rw [show t.toNat = (t - 1).toNat + 1 by omega]
  show (if o.1 ≤ b ∨ (a < x.1 ∧ x.2.1 a ≤ o.2.1 b) then _ else _) = _
  rw [if_pos c]
theorem uni_b {x o : SpT} {t a b : Int} {g : SpT} (ht : 0 < t) (c : ¬ (o.1 ≤ b ∨ (a < x.1 ∧ x.2.1 a ≤ o.2.1 b))) : uni x o t.toNat a b g = uni x o (t - 1).toNat a (b + 1) (apd g (spF o b) (spL o b) 0) := by
  rw [show t.toNat = (t - 1).toNat + 1 by omega]
  show (if o.1 ≤ b ∨ (a < x.1 ∧ x.2.1 a ≤ o.2.1 b) then _ else _) = _
  rw [if_neg c]
