/-! WHAT IS MADE OF SPANS, BY THE PAGES -/
theorem upI_if {α : Type} (f : Int → α) (k : Int) (v : α) (j : Int) : upI f k v j = if j = k then v else f j := rfl
theorem apd_ok {g : SpT} {f l pg : Int} (hv : VL g pg) (hf : 1 ≤ f ∧ f ≤ l ∧ l ≤ pg) (hla : 0 < g.1 → g.2.1 (g.1 - 1) ≤ f) (hr : g.1 < 16) :
    VL (apd g f l 0) pg ∧ (∀ q, cov (apd g f l 0) q ↔ cov g q ∨ (f ≤ q ∧ q ≤ l)) ∧ (apd g f l 0).1 ≤ g.1 + 1 ∧ 0 < (apd g f l 0).1 ∧ (apd g f l 0).2.1 ((apd g f l 0).1 - 1) ≤ f := by
  obtain ⟨v0, v1, v2, v3⟩ := id hv
  by_cases c : 0 < g.1 ∧ f - g.2.2 (g.1 - 1) - 1 ≤ 0
  · have e : apd g f l 0 = (g.1, g.2.1, upI g.2.2 (g.1 - 1) (max (g.2.2 (g.1 - 1)) l)) := if_pos c
    have hl := hla c.1
    have vl := v2 (g.1 - 1) (by omega) (by omega)
    rw [e]
    refine ⟨⟨v0, v1, fun k h0 h1 => ?_, fun k h0 h1 => ?_⟩, fun q => ?_, by show g.1 ≤ g.1 + 1; omega, c.1, hl⟩
    · show 1 ≤ g.2.1 k ∧ g.2.1 k ≤ upI _ _ _ k ∧ upI _ _ _ k ≤ pg
      have h1 : k < g.1 := h1
      have vk := v2 k h0 h1
      rw [upI_if]
      by_cases z : k = g.1 - 1
      · rw [if_pos z]; rw [z] at vk ⊢; omega
      · rw [if_neg z]; exact vk
    · show upI _ _ _ k + 2 ≤ g.2.1 (k + 1)
      have h1 : k + 1 < g.1 := h1
      rw [upI_if, if_neg (by omega)]; exact v3 k h0 h1
    · constructor
      · rintro ⟨k, h0, h1, h2, h3⟩
        have h1 : k < g.1 := h1
        have h2 : g.2.1 k ≤ q := h2
        have h3 : q ≤ upI _ _ _ k := h3
        rw [upI_if] at h3
        by_cases z : k = g.1 - 1
        · rw [if_pos z] at h3; rw [z] at h2
          by_cases y : q ≤ g.2.2 (g.1 - 1)
          · exact Or.inl ⟨g.1 - 1, by omega, by omega, h2, y⟩
          · exact Or.inr (by omega)
        · rw [if_neg z] at h3; exact Or.inl ⟨k, h0, h1, h2, h3⟩
      · rintro (⟨k, h0, h1, h2, h3⟩ | ⟨h2, h3⟩)
        · refine ⟨k, h0, h1, h2, ?_⟩
          show q ≤ upI _ _ _ k
          rw [upI_if]
          by_cases z : k = g.1 - 1
          · rw [if_pos z, ← z]; omega
          · rw [if_neg z]; exact h3
        · refine ⟨g.1 - 1, by omega, by show g.1 - 1 < g.1; omega, by show g.2.1 (g.1 - 1) ≤ q; omega, ?_⟩
          show q ≤ upI _ _ _ (g.1 - 1)
          rw [upI_if, if_pos rfl]; omega
  · have e : apd g f l 0 = (g.1 + 1, upI g.2.1 g.1 f, upI g.2.2 g.1 l) := (if_neg c).trans (if_pos hr)
    rw [e]
    refine ⟨⟨by show 0 ≤ g.1 + 1; omega, by show g.1 + 1 ≤ 16; omega, fun k h0 h1 => ?_, fun k h0 h1 => ?_⟩, fun q => ?_, Int.le_refl _, by show 0 < g.1 + 1; omega, ?_⟩
    · show 1 ≤ upI _ _ _ k ∧ upI _ _ _ k ≤ upI _ _ _ k ∧ upI _ _ _ k ≤ pg
      have h1 : k < g.1 + 1 := h1
      rw [upI_if, upI_if]
      by_cases z : k = g.1
      · rw [if_pos z, if_pos z]; exact hf
      · rw [if_neg z, if_neg z]; exact v2 k h0 (by omega)
    · show upI _ _ _ k + 2 ≤ upI _ _ _ (k + 1)
      have h1 : k + 1 < g.1 + 1 := h1
      rw [upI_if, upI_if, if_neg (by omega)]
      by_cases z : k + 1 = g.1
      · rw [if_pos z, show k = g.1 - 1 by omega]; omega
      · rw [if_neg z]; exact v3 k h0 (by omega)
    · constructor
      · rintro ⟨k, h0, h1, h2, h3⟩
        have h1 : k < g.1 + 1 := h1
        have h2 : upI _ _ _ k ≤ q := h2
        have h3 : q ≤ upI _ _ _ k := h3
        rw [upI_if] at h2 h3
        by_cases z : k = g.1
        · rw [if_pos z] at h2 h3; exact Or.inr ⟨h2, h3⟩
        · rw [if_neg z] at h2 h3; exact Or.inl ⟨k, h0, by omega, h2, h3⟩
      · rintro (⟨k, h0, h1, h2, h3⟩ | ⟨h2, h3⟩)
        · refine ⟨k, h0, by show k < g.1 + 1; omega, ?_, ?_⟩
          · show upI _ _ _ k ≤ q
            rw [upI_if, if_neg (by omega)]; exact h2
          · show q ≤ upI _ _ _ k
            rw [upI_if, if_neg (by omega)]; exact h3
        · refine ⟨g.1, v0, by show g.1 < g.1 + 1; omega, ?_, ?_⟩
          · show upI _ _ _ g.1 ≤ q
            rw [upI_if, if_pos rfl]; exact h2
          · show q ≤ upI _ _ _ g.1
            rw [upI_if, if_pos rfl]; exact h3
    · show upI _ _ _ (g.1 + 1 - 1) ≤ f
      rw [upI_if, if_pos (by omega)]; exact Int.le_refl _
/-- spans being made: in order, n of them or fewer, none that starts behind b, of the pages P -/
def MK (g : SpT) (pg n b : Int) (P : Int → Prop) : Prop := VL g pg ∧ g.1 ≤ n ∧ (0 < g.1 → g.2.1 (g.1 - 1) ≤ b) ∧ ∀ q, cov g q ↔ P q
theorem mk_0 {F L : Int → Int} {pg n b : Int} {P : Int → Prop} (hn : 0 ≤ n) (hP : ∀ q, ¬ P q) : MK (0, F, L) pg n b P :=
  ⟨⟨Int.le_refl _, by show (0 : Int) ≤ 16; decide, fun k h0 h1 => by have h1 : k < 0 := h1; omega, fun k h0 h1 => by have h1 : k + 1 < 0 := h1; omega⟩, hn, fun z => by have z : (0 : Int) < 0 := z; omega, fun q => ⟨fun ⟨k, h0, h1, _⟩ => by have h1 : k < 0 := h1; omega, fun z => (hP q z).elim⟩⟩
theorem mk_a {g : SpT} {pg n b f l : Int} {P Q : Int → Prop} (h : MK g pg n b P) (hf : 1 ≤ f ∧ f ≤ l ∧ l ≤ pg) (hb : b ≤ f) (hn : n < 16) (hQ : ∀ q, Q q ↔ P q ∨ (f ≤ q ∧ q ≤ l)) : MK (apd g f l 0) pg (n + 1) f Q := by
  obtain ⟨h1, h2, h3, h4⟩ := h
  obtain ⟨a1, a2, a3, a4, a5⟩ := apd_ok h1 hf (fun z => Int.le_trans (h3 z) hb) (by omega)
  exact ⟨a1, by omega, fun _ => a5, fun q => (a2 q).trans ((or_congr (h4 q) Iff.rfl).trans (hQ q).symm)⟩
theorem mk_w {g : SpT} {pg n b n' b' : Int} {P Q : Int → Prop} (h : MK g pg n b P) (hn : n ≤ n') (hb : b ≤ b') (hQ : ∀ q, Q q ↔ P q) : MK g pg n' b' Q :=
  ⟨h.1, Int.le_trans h.2.1 hn, fun z => Int.le_trans (h.2.2.1 z) hb, fun q => (h.2.2.2 q).trans (hQ q).symm⟩
theorem mk_e {g : SpT} {pg n b b' f l : Int} {P Q : Int → Prop} (h : MK g pg n b P) (hf : f ≤ l → 1 ≤ f ∧ l ≤ pg ∧ b ≤ f ∧ f ≤ b') (hb : b ≤ b') (hn : n < 16) (hQ : ∀ q, Q q ↔ P q ∨ (f ≤ q ∧ q ≤ l)) : MK (ape g f l) pg (n + 1) b' Q := by
  by_cases c : f ≤ l
  · rw [show ape g f l = apd g f l 0 from if_pos c]
    have z := hf c
    exact mk_w (mk_a h ⟨z.1, c, z.2.1⟩ z.2.2.1 hn hQ) (Int.le_refl _) z.2.2.2 (fun _ => Iff.rfl)
  · rw [show ape g f l = g from if_neg c]
    exact mk_w h (by omega) hb (fun q => (hQ q).trans ⟨fun z => z.elim id (fun y => by omega), Or.inl⟩)
/-- the pages of the spans ahead of number z -/
def cvz (g : SpT) (z q : Int) : Prop := ∃ k : Int, 0 ≤ k ∧ k < z ∧ g.2.1 k ≤ q ∧ q ≤ g.2.2 k
theorem cvz_s {g : SpT} {z : Int} (hz : 0 ≤ z) (q : Int) : cvz g (z + 1) q ↔ cvz g z q ∨ (g.2.1 z ≤ q ∧ q ≤ g.2.2 z) :=
  ⟨fun ⟨k, h0, h1, h2⟩ => by
    by_cases c : k = z
    · subst c; exact Or.inr h2
    · exact Or.inl ⟨k, h0, by omega, h2⟩, fun h => h.elim (fun ⟨k, h0, h1, h2⟩ => ⟨k, h0, by omega, h2⟩) (fun h2 => ⟨z, hz, by omega, h2⟩)⟩
theorem cvz_0 {g : SpT} (q : Int) : ¬ cvz g 0 q := fun ⟨k, h0, h1, _⟩ => by omega
theorem nat_ind {Q : Int → Prop} (h0 : Q 0) (hs : ∀ z : Int, 0 ≤ z → Q z → Q (z + 1)) : ∀ z : Int, 0 ≤ z → Q z := by
  have k : ∀ n : Nat, Q (n : Int) := by
    intro n
    induction n with
    | zero => exact h0
    | succ n ih => exact hs _ (by omega) ih
  intro z hz
  have h := k z.toNat
  rw [show ((z.toNat : Nat) : Int) = z by omega] at h
  exact h
theorem brg_mk {o : SpT} {pg : Int} (hv : VL o pg) {F L : Int → Int} : ∀ z : Int, 0 ≤ z → z ≤ o.1 → MK (brg o 0 (0, F, L) z.toNat) pg z (if z = 0 then 0 else o.2.1 (z - 1)) (cvz o z) := by
  refine nat_ind ?_ ?_
  · intro _
    exact mk_0 (Int.le_refl _) cvz_0
  · intro z hz ih hz1
    have v0 := hv.2.1
    have v2 := hv.2.2.1 z hz (by omega)
    rw [brg_s _ _ _ hz, if_neg (by omega), show z + 1 - 1 = z by omega]
    refine mk_a (ih (by omega)) v2 ?_ (by omega) (cvz_s hz)
    split
    · omega
    · have v3 := vl_lt hv (i := z - 1) (j := z) (by omega) (by omega) (by omega)
      have v4 := hv.2.2.1 (z - 1) (by omega) (by omega)
      omega
/-- the same spans -/
theorem brg_same {o : SpT} {pg : Int} (hv : VL o pg) (F L : Int → Int) : VL (brg o 0 (0, F, L) o.1.toNat) pg ∧ ∀ q, cov (brg o 0 (0, F, L) o.1.toNat) q ↔ cov o q := by
  have h := brg_mk hv (F := F) (L := L) o.1 hv.1 (Int.le_refl _)
  exact ⟨h.1, h.2.2.2⟩
theorem one_mk {F L : Int → Int} {f l pg : Int} (hf : 1 ≤ f ∧ f ≤ l ∧ l ≤ pg) : MK (apd (0, F, L) f l 0) pg 1 f (fun q => f ≤ q ∧ q ≤ l) :=
  mk_a (mk_0 (n := 0) (b := 0) (P := fun _ => False) (Int.le_refl _) (fun _ => id)) hf (by omega) (by decide) (fun q => ⟨Or.inr, fun z => z.elim False.elim id⟩)
theorem vl_bd {o : SpT} {pg : Int} (hv : VL o pg) {z : Int} (hz : 0 ≤ z) (hz1 : z < o.1) : (if z = 0 then 0 else o.2.2 (z - 1)) + (if z = 0 then 0 else 2) ≤ o.2.1 z := by
  split
  · have v2 := hv.2.2.1 z hz hz1; omega
  · exact vl_lt hv (i := z - 1) (j := z) (by omega) (by omega) hz1
theorem rst_mk {o : SpT} {pg a b : Int} (hv : VL o pg) (h8 : o.1 ≤ 8) (hab : 1 ≤ a ∧ a ≤ b ∧ b ≤ pg) {F L : Int → Int} : ∀ z : Int, 0 ≤ z → z ≤ o.1 → MK (rst o a b (0, F, L) z.toNat) pg (2 * z) (if z = 0 then 0 else o.2.2 (z - 1)) (fun q => cvz o z q ∧ ¬ (a ≤ q ∧ q ≤ b)) := by
  refine nat_ind ?_ ?_
  · intro _
    exact mk_0 (by decide) (fun q z => cvz_0 q z.1)
  · intro z hz ih hz1
    have v2 := hv.2.2.1 z hz (by omega)
    have v3 := vl_bd hv hz (by omega)
    rw [rst_s _ _ _ _ hz, if_neg (by omega), show z + 1 - 1 = z by omega, show 2 * (z + 1) = 2 * z + 1 + 1 by omega]
    refine mk_e (mk_e (b' := o.2.1 z) (Q := fun q => (cvz o z q ∧ ¬ (a ≤ q ∧ q ≤ b)) ∨ (o.2.1 z ≤ q ∧ q ≤ min (o.2.2 z) (a - 1))) (ih (by omega)) (fun c => ⟨by omega, by omega, by split at v3 <;> omega, by omega⟩) (by split at v3 <;> omega) (by omega) (fun _ => Iff.rfl)) (fun c => ⟨by omega, by omega, by omega, by omega⟩) (by omega) (by omega) (fun q => ?_)
    show cvz o (z + 1) q ∧ ¬ (a ≤ q ∧ q ≤ b) ↔ _
    rw [cvz_s hz]
    by_cases y : cvz o z q <;> simp only [y, true_or, false_or, true_and, false_and] <;> omega
theorem wpo_mk {o : SpT} {pg p : Int} (hv : VL o pg) (h8 : o.1 ≤ 8) (hp : 1 ≤ p ∧ p ≤ pg) {F L : Int → Int} : ∀ z : Int, 0 ≤ z → z ≤ o.1 → MK (wpo o p (0, F, L) z.toNat) (pg - 1) z (if z = 0 then 0 else o.2.2 (z - 1)) (fun q => cvz o z (if q < p then q else q + 1)) := by
  refine nat_ind ?_ ?_
  · intro _
    exact mk_0 (by decide) (fun q z => cvz_0 _ z)
  · intro z hz ih hz1
    have v2 := hv.2.2.1 z hz (by omega)
    have v3 := vl_bd hv hz (by omega)
    rw [wpo_s _ _ _ hz, if_neg (show ¬ z + 1 = 0 by omega), show z + 1 - 1 = z by omega]
    have hX : ∃ X, (if p < o.2.1 z then o.2.1 z - 1 else o.2.1 z) = X ∧ ((p < o.2.1 z ∧ X = o.2.1 z - 1) ∨ (o.2.1 z ≤ p ∧ X = o.2.1 z)) := by
      by_cases c : p < o.2.1 z
      · exact ⟨_, if_pos c, Or.inl ⟨c, rfl⟩⟩
      · exact ⟨_, if_neg c, Or.inr ⟨by omega, rfl⟩⟩
    have hY : ∃ Y, (if p ≤ o.2.2 z then o.2.2 z - 1 else o.2.2 z) = Y ∧ ((p ≤ o.2.2 z ∧ Y = o.2.2 z - 1) ∨ (o.2.2 z < p ∧ Y = o.2.2 z)) := by
      by_cases c : p ≤ o.2.2 z
      · exact ⟨_, if_pos c, Or.inl ⟨c, rfl⟩⟩
      · exact ⟨_, if_neg c, Or.inr ⟨by omega, rfl⟩⟩
    have v3 : (if z = 0 then 0 else o.2.2 (z - 1)) ≤ o.2.1 z - 1 := by
      by_cases z0 : z = 0
      · rw [if_pos z0]; omega
      · rw [if_neg z0, if_neg z0] at v3; rw [if_neg z0]; omega
    obtain ⟨X, eX, hX⟩ := hX
    obtain ⟨Y, eY, hY⟩ := hY
    rw [eX, eY]
    refine mk_e (ih (by omega)) (fun c => ⟨by omega, by omega, by omega, by omega⟩) (by omega) (by omega) (fun q => ?_)
    show cvz o (z + 1) _ ↔ cvz o z _ ∨ _
    rw [cvz_s hz]
    refine or_congr Iff.rfl ?_
    by_cases c1 : q < p
    · rw [if_pos c1]; omega
    · rw [if_neg c1]; omega
theorem mvd_vl {g : SpT} {pg p m : Int} (hv : VL g pg) (hp : 1 ≤ p ∧ p ≤ pg + 1) (hm : 1 ≤ m) : VL (mvd g p m g.1) (pg + m) ∧ ∀ q, cov (mvd g p m g.1) q ↔ (if q < p then cov g q else if q < p + m then cov g (p - 1) ∧ cov g p else cov g (q - m)) := by
  obtain ⟨v0, v1, v2, v3⟩ := id hv
  have eF : ∀ k, 0 ≤ k → k < g.1 → (mvd g p m g.1).2.1 k = if p ≤ g.2.1 k then g.2.1 k + m else g.2.1 k := fun k h0 h1 => by
    show (if 0 ≤ k ∧ k < g.1 ∧ p ≤ g.2.1 k then g.2.1 k + m else g.2.1 k) = _
    by_cases c : p ≤ g.2.1 k
    · rw [if_pos c, if_pos ⟨h0, h1, c⟩]
    · rw [if_neg c, if_neg (fun z => c z.2.2)]
  have eL : ∀ k, 0 ≤ k → k < g.1 → (mvd g p m g.1).2.2 k = if p ≤ g.2.2 k then g.2.2 k + m else g.2.2 k := fun k h0 h1 => by
    show (if 0 ≤ k ∧ k < g.1 ∧ p ≤ g.2.2 k then g.2.2 k + m else g.2.2 k) = _
    by_cases c : p ≤ g.2.2 k
    · rw [if_pos c, if_pos ⟨h0, h1, c⟩]
    · rw [if_neg c, if_neg (fun z => c z.2.2)]
  refine ⟨⟨v0, v1, fun k h0 h1 => ?_, fun k h0 h1 => ?_⟩, fun q => ⟨?_, ?_⟩⟩
  · have h1 : k < g.1 := h1
    have w := v2 k h0 h1
    rw [eF k h0 h1, eL k h0 h1]; split <;> split <;> omega
  · have h1 : k + 1 < g.1 := h1
    have w := v3 k h0 h1
    rw [eF (k + 1) (by omega) h1, eL k h0 (by omega)]; split <;> split <;> omega
  · rintro ⟨k, h0, h1, h2, h3⟩
    have h1 : k < g.1 := h1
    have w := v2 k h0 h1
    rw [eF k h0 h1] at h2
    rw [eL k h0 h1] at h3
    by_cases c1 : q < p
    · rw [if_pos c1]; exact ⟨k, h0, h1, by split at h2 <;> omega, by split at h3 <;> omega⟩
    · rw [if_neg c1]
      by_cases c2 : q < p + m
      · rw [if_pos c2]
        exact ⟨⟨k, h0, h1, by split at h2 <;> omega, by split at h3 <;> omega⟩, ⟨k, h0, h1, by split at h2 <;> omega, by split at h3 <;> omega⟩⟩
      · rw [if_neg c2]
        exact ⟨k, h0, h1, by split at h2 <;> omega, by split at h3 <;> omega⟩
  · intro h
    by_cases c1 : q < p
    · rw [if_pos c1] at h
      obtain ⟨k, h0, h1, h2, h3⟩ := h
      have w := v2 k h0 h1
      exact ⟨k, h0, h1, by rw [eF k h0 h1]; split <;> omega, by rw [eL k h0 h1]; split <;> omega⟩
    · rw [if_neg c1] at h
      by_cases c2 : q < p + m
      · rw [if_pos c2] at h
        obtain ⟨⟨k, h0, h1, h2, h3⟩, ⟨j, k0, k1, k2, k3⟩⟩ := h
        have w := v2 k h0 h1
        have e : j = k := by
          rcases Int.lt_trichotomy j k with z | z | z
          · have y := vl_lt hv k0 z h1; omega
          · exact z
          · have y := vl_lt hv h0 z k1; omega
        subst e
        exact ⟨j, h0, h1, by rw [eF j h0 h1]; split <;> omega, by rw [eL j h0 h1]; split <;> omega⟩
      · rw [if_neg c2] at h
        obtain ⟨k, h0, h1, h2, h3⟩ := h
        have w := v2 k h0 h1
        exact ⟨k, h0, h1, by rw [eF k h0 h1]; split <;> omega, by rw [eL k h0 h1]; split <;> omega⟩
theorem uni_mk {x o : SpT} {pg : Int} (hx : VL x pg) (ho : VL o pg) (h16 : x.1 + o.1 ≤ 16) : ∀ (n : Nat) (a b : Int) (g : SpT) (bd : Int), 0 ≤ a → 0 ≤ b → a ≤ x.1 → b ≤ o.1 → a + b + n = x.1 + o.1 → (a < x.1 → bd ≤ x.2.1 a) → (b < o.1 → bd ≤ o.2.1 b) → MK g pg (a + b) bd (fun q => cvz x a q ∨ cvz o b q) → ∃ bd', MK (uni x o n a b g) pg (x.1 + o.1) bd' (fun q => cov x q ∨ cov o q) := by
  intro n
  induction n with
  | zero =>
    intro a b g bd ha hb hax hbo hs h1 h2 h
    refine ⟨bd, mk_w h (by omega) (Int.le_refl _) (fun q => ?_)⟩
    rw [show a = x.1 by omega, show b = o.1 by omega]
    exact Iff.rfl
  | succ n ih =>
    intro a b g bd ha hb hax hbo hs h1 h2 h
    by_cases c : o.1 ≤ b ∨ (a < x.1 ∧ x.2.1 a ≤ o.2.1 b)
    · rw [show uni x o (n + 1) a b g = uni x o n (a + 1) b (apd g (spF x a) (spL x a) 0) from if_pos c]
      have hl : a < x.1 := by omega
      have v2 := hx.2.2.1 a ha hl
      rw [show spF x a = x.2.1 a from if_pos ⟨ha, hl⟩, show spL x a = x.2.2 a from if_pos ⟨ha, hl⟩]
      refine ih (a + 1) b _ (x.2.1 a) (by omega) hb (by omega) hbo (by omega) (fun z => by have y := vl_lt hx ha (show a < a + 1 by omega) z; omega) (fun z => by omega) ?_
      rw [show a + 1 + b = a + b + 1 by omega]
      refine mk_a h v2 (h1 hl) (by omega) (fun q => ?_)
      show cvz x (a + 1) q ∨ cvz o b q ↔ (cvz x a q ∨ cvz o b q) ∨ _
      rw [cvz_s ha]
      exact ⟨fun z => z.elim (fun z => z.elim (fun z => Or.inl (Or.inl z)) Or.inr) (fun z => Or.inl (Or.inr z)), fun z => z.elim (fun z => z.elim (fun z => Or.inl (Or.inl z)) Or.inr) (fun z => Or.inl (Or.inr z))⟩
    · rw [show uni x o (n + 1) a b g = uni x o n a (b + 1) (apd g (spF o b) (spL o b) 0) from if_neg c]
      have hl : b < o.1 := by omega
      have v2 := ho.2.2.1 b hb hl
      rw [show spF o b = o.2.1 b from if_pos ⟨hb, hl⟩, show spL o b = o.2.2 b from if_pos ⟨hb, hl⟩]
      refine ih a (b + 1) _ (o.2.1 b) ha (by omega) hax (by omega) (by omega) (fun z => by omega) (fun z => by have y := vl_lt ho hb (show b < b + 1 by omega) z; omega) ?_
      rw [show a + (b + 1) = a + b + 1 by omega]
      refine mk_a h v2 (h2 hl) (by omega) (fun q => ?_)
      show cvz x a q ∨ cvz o (b + 1) q ↔ (cvz x a q ∨ cvz o b q) ∨ _
      rw [cvz_s hb]
      exact ⟨fun z => z.elim (fun z => Or.inl (Or.inl z)) (fun z => z.elim (fun z => Or.inl (Or.inr z)) Or.inr), fun z => z.elim (fun z => z.elim Or.inl (fun z => Or.inr (Or.inl z))) (fun z => Or.inr (Or.inr z))⟩
theorem uni_vl {x o : SpT} {pg : Int} (hx : VL x pg) (ho : VL o pg) (h16 : x.1 + o.1 ≤ 16) (F L : Int → Int) : VL (uni x o (x.1 + o.1).toNat 0 0 (0, F, L)) pg ∧ ∀ q, cov (uni x o (x.1 + o.1).toNat 0 0 (0, F, L)) q ↔ cov x q ∨ cov o q := by
  have v0 := hx.1
  have v1 := ho.1
  obtain ⟨_, h⟩ := uni_mk hx ho h16 (x.1 + o.1).toNat 0 0 (0, F, L) 0 (Int.le_refl _) (Int.le_refl _) v0 v1 (by omega) (fun z => by have y := hx.2.2.1 0 (Int.le_refl _) z; omega) (fun z => by have y := ho.2.2.1 0 (Int.le_refl _) z; omega) (mk_0 (by decide) (fun q z => z.elim (cvz_0 q) (cvz_0 q)))
  exact ⟨h.1, h.2.2.2⟩
theorem rst_vl {o : SpT} {pg a b : Int} (hv : VL o pg) (h8 : o.1 ≤ 8) (hab : 1 ≤ a ∧ a ≤ b ∧ b ≤ pg) (F L : Int → Int) : VL (rst o a b (0, F, L) o.1.toNat) pg ∧ ∀ q, cov (rst o a b (0, F, L) o.1.toNat) q ↔ cov o q ∧ ¬ (a ≤ q ∧ q ≤ b) := by
  have h := rst_mk hv h8 hab (F := F) (L := L) o.1 hv.1 (Int.le_refl _)
  exact ⟨h.1, h.2.2.2⟩
theorem wpo_vl {o : SpT} {pg p : Int} (hv : VL o pg) (h8 : o.1 ≤ 8) (hp : 1 ≤ p ∧ p ≤ pg) (F L : Int → Int) : VL (wpo o p (0, F, L) o.1.toNat) (pg - 1) ∧ (wpo o p (0, F, L) o.1.toNat).1 ≤ o.1 ∧ ∀ q, cov (wpo o p (0, F, L) o.1.toNat) q ↔ cov o (if q < p then q else q + 1) := by
  have h := wpo_mk hv h8 hp (F := F) (L := L) o.1 hv.1 (Int.le_refl _)
  exact ⟨h.1, h.2.1, h.2.2.2⟩
/-! NUMBERS OF SPANS, BY THE PAGES -/
theorem spS_c {P Q : Int → Prop} {gap : Int} : ∀ {n : Nat}, (∀ q : Int, 1 ≤ q → q ≤ n → (P q ↔ Q q)) → spS P gap n = spS Q gap n := by
  intro n
  induction n with
  | zero => intro _; rfl
  | succ n ih =>
    intro h
    have e : P ((n : Int) + 1) ↔ Q ((n : Int) + 1) := h _ (by omega) (by omega)
    have e2 := ih (fun q h0 h1 => h q h0 (by omega))
    show @ite _ (P ((n : Int) + 1)) (Classical.propDecidable _) _ (spS P gap n) = @ite _ (Q ((n : Int) + 1)) (Classical.propDecidable _) _ (spS Q gap n)
    by_cases c : P ((n : Int) + 1)
    · rw [if_pos c, if_pos (e.mp c), e2]
    · rw [if_neg c, if_neg (fun z => c (e.mpr z)), e2]
theorem spS_gap {P : Int → Prop} {gap a m la : Int} (ha : 0 ≤ a) (hm : spS P gap a.toNat = (m, la)) : ∀ z : Int, 0 ≤ z → (∀ q, a < q → q ≤ a + z → ¬ P q) → spS P gap (a + z).toNat = (m, la) := by
  refine nat_ind ?_ ?_
  · intro _; rw [Int.add_zero]; exact hm
  · intro z hz ih h
    have e := spS_n (P := P) (gap := gap) (p := a + z + 1) (m := m) (la := la) (by omega) (h _ (by omega) (by omega)) (by rw [show a + z + 1 - 1 = a + z by omega]; exact ih (fun q h0 h1 => h q h0 (by omega)))
    rw [show a + z + 1 + 1 - 1 = a + (z + 1) by omega] at e
    exact e
theorem spS_run {P : Int → Prop} {gap a m : Int} (hg : 0 ≤ gap) (ha : 1 ≤ a) (hm : spS P gap a.toNat = (m, a)) : ∀ z : Int, 0 ≤ z → (∀ q, a < q → q ≤ a + z → P q) → spS P gap (a + z).toNat = (m, a + z) := by
  refine nat_ind ?_ ?_
  · intro _; rw [Int.add_zero]; exact hm
  · intro z hz ih h
    have e := spS_y (P := P) (gap := gap) (p := a + z + 1) (m := m) (la := a + z) (by omega) (h _ (by omega) (by omega)) (by rw [show a + z + 1 - 1 = a + z by omega]; exact ih (fun q h0 h1 => h q h0 (by omega)))
    rw [show a + z + 1 + 1 - 1 = a + (z + 1) by omega, if_neg (by omega)] at e
    rw [e, show a + z + 1 = a + (z + 1) by omega]
/-- how many spans are left if those with gap pages or fewer between them are one -/
noncomputable def cnt (g : SpT) (gap z : Int) : Int := smI (fun j => pI (j = 0 ∨ gap < g.2.1 j - g.2.2 (j - 1) - 1)) z.toNat
theorem cnt_s (g : SpT) (gap : Int) {z : Int} (hz : 0 ≤ z) : cnt g gap (z + 1) = cnt g gap z + pI (z = 0 ∨ gap < g.2.1 z - g.2.2 (z - 1) - 1) := smI_s _ hz
theorem cnt_sp {g : SpT} {pg gap : Int} (hv : VL g pg) (hg : 0 ≤ gap) : ∀ z : Int, 0 ≤ z → z < g.1 → spS (cov g) gap (g.2.2 z).toNat = (cnt g gap (z + 1), g.2.2 z) := by
  have run : ∀ z m : Int, 0 ≤ z → z < g.1 → spS (cov g) gap (g.2.1 z).toNat = (m, g.2.1 z) → spS (cov g) gap (g.2.2 z).toNat = (m, g.2.2 z) := by
    intro z m hz h1 hm
    have w := hv.2.2.1 z hz h1
    have e := spS_run hg (by omega) hm (g.2.2 z - g.2.1 z) (by omega) (fun q q0 q1 => ⟨z, hz, h1, by omega, by omega⟩)
    rw [show g.2.1 z + (g.2.2 z - g.2.1 z) = g.2.2 z by omega] at e
    exact e
  refine nat_ind ?_ ?_
  · intro h1
    have w := hv.2.2.1 0 (Int.le_refl _) h1
    refine run 0 _ (Int.le_refl _) h1 ?_
    have e := spS_gap (P := cov g) (gap := gap) (a := 0) (m := 0) (la := -1) (Int.le_refl _) rfl (g.2.1 0 - 1) (by omega) (fun q q0 q1 z => by have y := (cov_lo hv h1 (q := q) (by omega)).mp z; omega)
    rw [show 0 + (g.2.1 0 - 1) = g.2.1 0 - 1 by omega] at e
    have e2 := spS_y (p := g.2.1 0) (by omega) ⟨0, Int.le_refl _, h1, Int.le_refl _, by omega⟩ e
    rw [if_pos (Or.inl rfl), show g.2.1 0 + 1 - 1 = g.2.1 0 by omega] at e2
    rw [e2, cnt_s g gap (Int.le_refl 0), pI_t (Or.inl rfl)]
    rfl
  · intro z hz ih h1
    have w := hv.2.2.1 (z + 1) (by omega) h1
    have w0 := hv.2.2.1 z hz (by omega)
    have w1 := hv.2.2.2 z hz h1
    refine run (z + 1) _ (by omega) h1 ?_
    have e := spS_gap (P := cov g) (gap := gap) (a := g.2.2 z) (by omega) (ih (by omega)) (g.2.1 (z + 1) - 1 - g.2.2 z) (by omega) (fun q q0 q1 y => by have y := (cov_gap hv (a := z) ⟨hz, h1⟩ (q := q) (by omega) (by omega)).mp y; omega)
    rw [show g.2.2 z + (g.2.1 (z + 1) - 1 - g.2.2 z) = g.2.1 (z + 1) - 1 by omega] at e
    have e2 := spS_y (p := g.2.1 (z + 1)) (by omega) ⟨z + 1, by omega, h1, Int.le_refl _, by omega⟩ e
    rw [show g.2.1 (z + 1) + 1 - 1 = g.2.1 (z + 1) by omega] at e2
    rw [e2, cnt_s g gap (show 0 ≤ z + 1 by omega), show z + 1 - 1 = z by omega]
    by_cases c : gap < g.2.1 (z + 1) - g.2.2 z - 1
    · rw [if_pos (Or.inr c), pI_t (Or.inr c)]
    · rw [if_neg (by omega), pI_f (by omega), Int.add_zero]
theorem cnt_all {g : SpT} {pg gap : Int} (hv : VL g pg) (hg : 0 ≤ gap) (hp : 0 ≤ pg) : (spS (cov g) gap pg.toNat).1 = cnt g gap g.1 := by
  by_cases c : g.1 = 0
  · have e := spS_gap (P := cov g) (gap := gap) (a := 0) (m := 0) (la := -1) (Int.le_refl _) rfl pg hp (fun q _ _ ⟨k, k0, k1, _⟩ => by omega)
    rw [Int.zero_add] at e
    rw [e, c]; rfl
  · have v0 := hv.1
    have w := hv.2.2.1 (g.1 - 1) (by omega) (by omega)
    have e := cnt_sp hv hg (g.1 - 1) (by omega) (by omega)
    have e2 := spS_gap (by omega) e (pg - g.2.2 (g.1 - 1)) (by omega) (fun q q0 q1 ⟨k, k0, k1, k2, k3⟩ => by
      by_cases y : k = g.1 - 1
      · rw [y] at k3; omega
      · have y2 := vl_lt hv k0 (show k < g.1 - 1 by omega) (by omega)
        have y3 := hv.2.2.1 k k0 k1
        omega)
    rw [show g.2.2 (g.1 - 1) + (pg - g.2.2 (g.1 - 1)) = pg by omega] at e2
    rw [e2, show g.1 - 1 + 1 = g.1 by omega]
theorem vl_ns {g : SpT} {pg : Int} (hv : VL g pg) (hp : 0 ≤ pg) : g.1 = (spS (cov g) 0 pg.toNat).1 := by
  rw [cnt_all hv (Int.le_refl _) hp]
  have k : ∀ z : Int, 0 ≤ z → z ≤ g.1 → cnt g 0 z = z := by
    refine nat_ind (fun _ => rfl) ?_
    intro z hz ih h1
    rw [cnt_s g 0 hz, ih (by omega)]
    by_cases c : z = 0
    · rw [pI_t (Or.inl c)]
    · have w := vl_lt hv (i := z - 1) (j := z) (by omega) (by omega) (by omega)
      rw [pI_t (Or.inr (by omega))]
  exact (k g.1 hv.1 (Int.le_refl _)).symm
theorem brg_ns {o : SpT} {pg gap : Int} (hv : VL o pg) (hg : 0 ≤ gap) (F L : Int → Int) : ∀ z : Int, 0 ≤ z → z ≤ o.1 → (brg o gap (0, F, L) z.toNat).1 = cnt o gap z ∧ (brg o gap (0, F, L) z.toNat).1 ≤ z ∧ (0 < z → 0 < (brg o gap (0, F, L) z.toNat).1 ∧ (brg o gap (0, F, L) z.toNat).2.2 ((brg o gap (0, F, L) z.toNat).1 - 1) = o.2.2 (z - 1)) := by
  have v1 := hv.2.1
  refine nat_ind (fun _ => ⟨rfl, Int.le_refl _, fun z => by omega⟩) ?_
  intro z hz ih h1
  obtain ⟨i1, i2, i3⟩ := ih (by omega)
  have w := hv.2.2.1 z hz (by omega)
  have c0 : 0 ≤ cnt o gap z := (smI_01 hz (fun _ _ _ => pI_b _)).1
  rw [brg_s _ _ _ hz, cnt_s o gap hz, show z + 1 - 1 = z by omega]
  generalize brg o gap (0, F, L) z.toNat = g at i1 i2 i3
  by_cases c : 0 < g.1 ∧ o.2.1 z - g.2.2 (g.1 - 1) - 1 ≤ gap
  · have e : apd g (o.2.1 z) (o.2.2 z) gap = (g.1, g.2.1, upI g.2.2 (g.1 - 1) (max (g.2.2 (g.1 - 1)) (o.2.2 z))) := if_pos c
    have z0 : 0 < z := by omega
    have j := (i3 z0).2
    have w2 := vl_lt hv (i := z - 1) (j := z) (by omega) (by omega) (by omega)
    rw [e]
    refine ⟨?_, by show g.1 ≤ z + 1; omega, fun _ => ⟨c.1, ?_⟩⟩
    · show g.1 = _
      rw [pI_f (by omega), i1]; omega
    · show upI _ _ _ (g.1 - 1) = _
      rw [upI_s]; omega
  · have e : apd g (o.2.1 z) (o.2.2 z) gap = (g.1 + 1, upI g.2.1 g.1 (o.2.1 z), upI g.2.2 g.1 (o.2.2 z)) := (if_neg c).trans (if_pos (by omega))
    rw [e]
    refine ⟨?_, by show g.1 + 1 ≤ z + 1; omega, fun _ => ⟨by show 0 < g.1 + 1; omega, ?_⟩⟩
    · show g.1 + 1 = _
      rw [pI_t, i1]
      by_cases z0 : z = 0
      · exact Or.inl z0
      · have j := i3 (by omega)
        exact Or.inr (by omega)
    · show upI _ _ _ (g.1 + 1 - 1) = _
      rw [show g.1 + 1 - 1 = g.1 by omega, upI_s]
theorem brg_cnt {o : SpT} {pg gap : Int} (hv : VL o pg) (hg : 0 ≤ gap) (hp : 0 ≤ pg) (F L : Int → Int) : (brg o gap (0, F, L) o.1.toNat).1 = (spS (cov o) gap pg.toNat).1 := by
  rw [cnt_all hv hg hp]
  exact (brg_ns hv hg F L o.1 hv.1 (Int.le_refl _)).1
theorem re_sp {P : Int → Prop} (h0 : ¬ P 0) : ∀ n : Nat, smI (fun k => pI (P (k + 1) ∧ ¬ P k)) n = (spS P 0 n).1 := by
  have k : ∀ n : Nat, smI (fun k => pI (P (k + 1) ∧ ¬ P k)) n = (spS P 0 n).1 ∧ (((spS P 0 n).2 = n ∧ P n ∧ 1 ≤ n) ∨ (¬ P n ∧ ((spS P 0 n).2 = -1 ∨ (0 ≤ (spS P 0 n).2 ∧ (spS P 0 n).2 < n)))) := by
    intro n
    induction n with
    | zero => exact ⟨rfl, Or.inr ⟨h0, Or.inl rfl⟩⟩
    | succ n ih =>
      obtain ⟨i1, i2⟩ := ih
      have e9 : smI (fun k => pI (P (k + 1) ∧ ¬ P k)) (n + 1) = smI (fun k => pI (P (k + 1) ∧ ¬ P k)) n + pI (P ((n : Int) + 1) ∧ ¬ P n) := rfl
      rw [e9, i1]
      by_cases c : P ((n : Int) + 1)
      · have e := spS_y (P := P) (gap := 0) (p := (n : Int) + 1) (m := (spS P 0 n).1) (la := (spS P 0 n).2) (by omega) c (by rw [show ((n : Int) + 1 - 1).toNat = n by omega])
        rw [show ((n : Int) + 1 + 1 - 1).toNat = n + 1 by omega] at e
        rw [e]
        refine ⟨?_, Or.inl ⟨by show (n : Int) + 1 = ((n + 1 : Nat) : Int); omega, c, by omega⟩⟩
        show _ = ite _ _ _
        rcases i2 with ⟨j1, j2, j3⟩ | ⟨j1, j2⟩
        · rw [pI_f (fun z => z.2 j2), if_neg (by omega), Int.add_zero]
        · rw [pI_t ⟨c, j1⟩, if_pos (by omega)]
      · have e := spS_n (P := P) (gap := 0) (p := (n : Int) + 1) (m := (spS P 0 n).1) (la := (spS P 0 n).2) (by omega) c (by rw [show ((n : Int) + 1 - 1).toNat = n by omega])
        rw [show ((n : Int) + 1 + 1 - 1).toNat = n + 1 by omega] at e
        rw [e, pI_f (fun z => c z.1), Int.add_zero]
        refine ⟨rfl, Or.inr ⟨c, ?_⟩⟩
        show (spS P 0 n).2 = -1 ∨ (0 ≤ (spS P 0 n).2 ∧ (spS P 0 n).2 < ((n + 1 : Nat) : Int))
        omega
  exact fun n => (k n).1
/-- so many pages from a to b -/
theorem iv_len {a b : Int} (ha : 1 ≤ a) : ∀ n : Nat, smI (fun k => pI (a ≤ k + 1 ∧ k + 1 ≤ b)) n = max 0 (min (n : Int) b - a + 1) := by
  intro n
  induction n with
  | zero => show (0 : Int) = _; omega
  | succ n ih =>
    have e9 : smI (fun k => pI (a ≤ k + 1 ∧ k + 1 ≤ b)) (n + 1) = smI (fun k => pI (a ≤ k + 1 ∧ k + 1 ≤ b)) n + pI (a ≤ (n : Int) + 1 ∧ (n : Int) + 1 ≤ b) := rfl
    rw [e9, ih]
    by_cases c : a ≤ (n : Int) + 1 ∧ (n : Int) + 1 ≤ b
    · rw [pI_t c]; omega
    · rw [pI_f c]; omega
theorem pg_sum {g : SpT} {pg : Int} (hv : VL g pg) (hp : 0 ≤ pg) : smI (fun k => g.2.2 k - g.2.1 k + 1) g.1.toNat = smI (fun k => pI (cov g (k + 1))) pg.toNat := by
  have v0 := hv.1
  rw [smI_c (g := fun k => smI (fun j => pI (g.2.1 j ≤ k + 1 ∧ k + 1 ≤ g.2.2 j)) g.1.toNat) (n := pg.toNat) (fun k _ _ => (vl_cov hv (k + 1)).symm),
    smI_swap (fun k j => pI (g.2.1 j ≤ k + 1 ∧ k + 1 ≤ g.2.2 j))]
  refine smI_c (fun j j0 j1 => ?_)
  have w := hv.2.2.1 j j0 (by omega)
  rw [iv_len w.1]; omega
/-- the pages of the spans from number a on -/
def cvf (g : SpT) (a q : Int) : Prop := ∃ k : Int, a ≤ k ∧ k < g.1 ∧ g.2.1 k ≤ q ∧ q ≤ g.2.2 k
theorem cvf_s {g : SpT} {a : Int} (h : a < g.1) (q : Int) : cvf g a q ↔ (g.2.1 a ≤ q ∧ q ≤ g.2.2 a) ∨ cvf g (a + 1) q :=
  ⟨fun ⟨k, k0, k1, k2⟩ => by
    by_cases c : k = a
    · subst c; exact Or.inl k2
    · exact Or.inr ⟨k, by omega, k1, k2⟩, fun h9 => h9.elim (fun k2 => ⟨a, Int.le_refl _, h, k2⟩) (fun ⟨k, k0, k1, k2⟩ => ⟨k, by omega, k1, k2⟩)⟩
theorem cvf_lo {g : SpT} {pg a q : Int} (hv : VL g pg) (ha : 0 ≤ a) (h : cvf g (a + 1) q) : g.2.2 a + 2 ≤ q := by
  obtain ⟨k, k0, k1, k2, k3⟩ := h
  have w := vl_lt hv ha (show a < k by omega) k1
  omega
theorem pic_sum {x o : SpT} {pg : Int} (hx : VL x pg) (ho : VL o pg) (hp : 0 ≤ pg) : ∀ (n : Nat) (a b s : Int), 0 ≤ a → 0 ≤ b → a ≤ x.1 → b ≤ o.1 → x.1 + o.1 - a - b ≤ n → pic x o n a b s = s + smI (fun r => pI (cvf x a (r + 1) ∧ cvf o b (r + 1))) pg.toNat := by
  have zero : ∀ a b : Int, (x.1 ≤ a ∨ o.1 ≤ b) → smI (fun r => pI (cvf x a (r + 1) ∧ cvf o b (r + 1))) pg.toNat = 0 := by
    intro a b h
    rw [smI_c (g := fun _ => 0) (fun k _ _ => pI_f (fun ⟨⟨k, k0, k1, _⟩, ⟨j, j0, j1, _⟩⟩ => by omega)), smI_z]
  intro n
  induction n with
  | zero =>
    intro a b s ha hb hax hbo hs
    rw [zero a b (by omega)]
    exact (Int.add_zero _).symm
  | succ n ih =>
    intro a b s ha hb hax hbo hs
    by_cases c : a < x.1 ∧ b < o.1
    · have wx := hx.2.2.1 a ha c.1
      have wo := ho.2.2.1 b hb c.2
      have len : smI (fun r => pI (max (x.2.1 a) (o.2.1 b) ≤ r + 1 ∧ r + 1 ≤ min (x.2.2 a) (o.2.2 b))) pg.toNat = max 0 (min (x.2.2 a) (o.2.2 b) - max (x.2.1 a) (o.2.1 b) + 1) := by
        rw [iv_len (by omega)]; omega
      by_cases d : x.2.2 a ≤ o.2.2 b
      · rw [show pic x o (n + 1) a b s = pic x o n (a + 1) b (s + max 0 (min (x.2.2 a) (o.2.2 b) - max (x.2.1 a) (o.2.1 b) + 1)) from (if_pos c).trans (if_pos d), ih _ _ _ (by omega) hb (by omega) hbo (by omega), ← len, Int.add_assoc, ← smI_add]
        refine congrArg (s + ·) (smI_c (fun r _ _ => ?_))
        show _ + _ = pI (cvf x a (r + 1) ∧ cvf o b (r + 1))
        by_cases c1 : x.2.1 a ≤ r + 1 ∧ r + 1 ≤ x.2.2 a
        · rw [pI_f (P := cvf x (a + 1) (r + 1) ∧ cvf o b (r + 1)) (fun z => by have y := cvf_lo hx ha z.1; omega), Int.add_zero]
          refine pI_c ⟨fun z => ⟨(cvf_s c.1 _).mpr (Or.inl c1), (cvf_s c.2 _).mpr (Or.inl (by omega))⟩, fun z => ?_⟩
          rcases (cvf_s c.2 _).mp z.2 with y | y
          · omega
          · have y2 := cvf_lo ho hb y; omega
        · rw [pI_f (P := max (x.2.1 a) (o.2.1 b) ≤ r + 1 ∧ r + 1 ≤ min (x.2.2 a) (o.2.2 b)) (fun z => c1 (by omega)), Int.zero_add]
          refine pI_c ⟨fun z => ⟨(cvf_s c.1 _).mpr (Or.inr z.1), z.2⟩, fun z => ⟨((cvf_s c.1 _).mp z.1).resolve_left c1, z.2⟩⟩
      · rw [show pic x o (n + 1) a b s = pic x o n a (b + 1) (s + max 0 (min (x.2.2 a) (o.2.2 b) - max (x.2.1 a) (o.2.1 b) + 1)) from (if_pos c).trans (if_neg d), ih _ _ _ ha (by omega) hax (by omega) (by omega), ← len, Int.add_assoc, ← smI_add]
        refine congrArg (s + ·) (smI_c (fun r _ _ => ?_))
        show _ + _ = pI (cvf x a (r + 1) ∧ cvf o b (r + 1))
        by_cases c1 : o.2.1 b ≤ r + 1 ∧ r + 1 ≤ o.2.2 b
        · rw [pI_f (P := cvf x a (r + 1) ∧ cvf o (b + 1) (r + 1)) (fun z => by have y := cvf_lo ho hb z.2; omega), Int.add_zero]
          refine pI_c ⟨fun z => ⟨(cvf_s c.1 _).mpr (Or.inl (by omega)), (cvf_s c.2 _).mpr (Or.inl c1)⟩, fun z => ?_⟩
          rcases (cvf_s c.1 _).mp z.1 with y | y
          · omega
          · have y2 := cvf_lo hx ha y; omega
        · rw [pI_f (P := max (x.2.1 a) (o.2.1 b) ≤ r + 1 ∧ r + 1 ≤ min (x.2.2 a) (o.2.2 b)) (fun z => c1 (by omega)), Int.zero_add]
          refine pI_c ⟨fun z => ⟨z.1, (cvf_s c.2 _).mpr (Or.inr z.2)⟩, fun z => ⟨z.1, ((cvf_s c.2 _).mp z.2).resolve_left c1⟩⟩
    · rw [show pic x o (n + 1) a b s = s from if_neg c, zero a b (by omega), Int.add_zero]
theorem pic_all {x o : SpT} {pg : Int} (hx : VL x pg) (ho : VL o pg) (hp : 0 ≤ pg) : pic x o (x.1 + o.1).toNat 0 0 0 = smI (fun r => pI (cov x (r + 1) ∧ cov o (r + 1))) pg.toNat := by
  have v0 := hx.1
  have v1 := ho.1
  rw [pic_sum hx ho hp _ 0 0 0 (Int.le_refl _) (Int.le_refl _) v0 v1 (by omega), Int.zero_add]
  rfl
/-! WAYS -/
def TE (se : Int → Int) : Nat → Int → Prop
  | 0, x => se x = -1
  | k + 1, x => se x ≠ -1 ∧ TE se k (se x)
theorem te_u {se : Int → Int} : ∀ {j k : Nat} {x : Int}, TE se j x → TE se k x → j = k
  | 0, 0, _, _, _ => rfl
  | 0, _ + 1, _, h, h' => (h'.1 h).elim
  | _ + 1, 0, _, h, h' => (h.1 h').elim
  | _ + 1, _ + 1, _, h, h' => congrArg (· + 1) (te_u h.2 h'.2)
theorem te_pop {se : Int → Int} {n : Int} (hn : 0 ≤ n ∧ n ≤ 24) (hs : ∀ k : Int, 0 ≤ k → k < n → -1 ≤ se k ∧ se k < n) : ∀ (k : Nat) (x : Int), 0 ≤ x → x < n → TE se k x → ∃ m : Nat, m < 2 ^ n.toNat ∧ k + 1 ≤ pop m 24 ∧ ∀ i : Nat, m.testBit i = true → ∃ j, j ≤ k ∧ TE se j (i : Int) := by
  intro k
  induction k with
  | zero =>
    intro x h0 h1 h
    have hl : 2 ^ x.toNat < 2 ^ n.toNat := Nat.pow_lt_pow_right (by decide) (by omega)
    refine ⟨2 ^ x.toNat, hl, pop_pos (Nat.ne_of_gt (Nat.pow_pos (by decide))) (lt24 hn hl), fun i hi => ⟨0, Nat.le_refl _, ?_⟩⟩
    rw [Nat.testBit_two_pow, decide_eq_true_eq] at hi
    rw [← hi, show ((x.toNat : Nat) : Int) = x by omega]; exact h
  | succ k ih =>
    intro x h0 h1 h
    have w := hs x h0 h1
    have w2 := h.1
    obtain ⟨m, m1, m2, m3⟩ := ih (se x) (by omega) (by omega) h.2
    have hl : 2 ^ x.toNat < 2 ^ n.toNat := Nat.pow_lt_pow_right (by decide) (by omega)
    have hb : (2 ^ x.toNat).testBit x.toNat = true := by rw [Nat.testBit_two_pow]; exact decide_eq_true rfl
    have ho : m ||| 2 ^ x.toNat < 2 ^ n.toNat := Nat.or_lt_two_pow m1 hl
    have g := or_grow (w := 24) (m := m) (s := 2 ^ x.toNat) (fun z => by
      have y : (m ||| 2 ^ x.toNat).testBit x.toNat = true := by rw [Nat.testBit_or, hb, Bool.or_true]
      rw [z] at y
      obtain ⟨j, j1, j2⟩ := m3 _ y
      rw [show ((x.toNat : Nat) : Int) = x by omega] at j2
      have e := te_u j2 h
      omega) (lt24 hn ho)
    refine ⟨m ||| 2 ^ x.toNat, ho, by omega, fun i hi => ?_⟩
    rw [Nat.testBit_or, Bool.or_eq_true] at hi
    rcases hi with hi | hi
    · obtain ⟨j, j1, j2⟩ := m3 i hi
      exact ⟨j, by omega, j2⟩
    · rw [Nat.testBit_two_pow, decide_eq_true_eq] at hi
      refine ⟨k + 1, Nat.le_refl _, ?_⟩
      rw [← hi, show ((x.toNat : Nat) : Int) = x by omega]; exact h
theorem eS_te {se : Int → Int} : ∀ (t : Nat) (x : Int), eS se (t + 1) x ≠ eS se t x → TE se t x := by
  intro t
  induction t with
  | zero =>
    intro x h
    by_cases c : se x = -1
    · exact c
    · exact (h (show (if se x = -1 then x else eS se 0 (se x)) = -1 from if_neg c)).elim
  | succ t ih =>
    intro x h
    by_cases c : se x = -1
    · exact (h ((show eS se (t + 1 + 1) x = x from if_pos c).trans (show eS se (t + 1) x = x from if_pos c).symm)).elim
    · refine ⟨c, ih _ (fun z => h ?_)⟩
      rw [show eS se (t + 1 + 1) x = eS se (t + 1) (se x) from if_neg c, show eS se (t + 1) x = eS se t (se x) from if_neg c]
      exact z
/-- one heading more changes no way's end -/
theorem eS_one {se : Int → Int} {n x : Int} (hn : 0 ≤ n ∧ n ≤ 24) (hs : ∀ k : Int, 0 ≤ k → k < n → -1 ≤ se k ∧ se k < n) (hx : 0 ≤ x ∧ x < n) : eS se (n + 1).toNat x = eS se n.toNat x := by
  rw [show (n + 1).toNat = n.toNat + 1 by omega]
  by_cases c : eS se (n.toNat + 1) x = eS se n.toNat x
  · exact c
  · obtain ⟨m, m1, m2, _⟩ := te_pop hn hs n.toNat x hx.1 hx.2 (eS_te _ _ c)
    have w := pop_lw (k := 24) m1
    omega
theorem stS_bit (se : Int → Int) (al : Int → Nat) (m i : Nat) : ∀ k : Nat, (stS se al m k).testBit i = true ↔ ∃ z : Nat, z < k ∧ m.testBit z = true ∧ (al (z : Int) ||| sb (se (z : Int))).testBit i = true := by
  intro k
  induction k with
  | zero => exact ⟨fun h => by rw [show stS se al m 0 = 0 from rfl, Nat.zero_testBit] at h; exact absurd h (by decide), fun ⟨z, h, _⟩ => by omega⟩
  | succ k ih =>
    by_cases c : m.testBit k = true
    · have e := stS_y (se := se) (al := al) (m := m) (z := (k : Int)) (by omega) c
      rw [show ((k : Int) + 1).toNat = k + 1 by omega, show ((k : Int)).toNat = k by omega] at e
      rw [e, Nat.testBit_or, Bool.or_eq_true, ih]
      exact ⟨fun h => h.elim (fun ⟨z, z0, z1⟩ => ⟨z, by omega, z1⟩) (fun h => ⟨k, by omega, c, h⟩), fun ⟨z, z0, z1, z2⟩ => by
        by_cases y : z = k
        · subst y; exact Or.inr z2
        · exact Or.inl ⟨z, by omega, z1, z2⟩⟩
    · have e := stS_n (se := se) (al := al) (m := m) (z := (k : Int)) (by omega) c
      rw [show ((k : Int) + 1).toNat = k + 1 by omega, show ((k : Int)).toNat = k by omega] at e
      rw [e, ih]
      exact ⟨fun ⟨z, z0, z1⟩ => ⟨z, by omega, z1⟩, fun ⟨z, z0, z1, z2⟩ => by
        by_cases y : z = k
        · subst y; exact (c z1).elim
        · exact ⟨z, by omega, z1, z2⟩⟩
theorem rS_bit (se : Int → Int) (al : Int → Nat) (n : Int) (i : Nat) : ∀ k : Nat, (rS se al n k).testBit i = true ↔ ∃ z : Nat, z < k ∧ z < n.toNat ∧ (al (z : Int) ||| sb (se (z : Int))).testBit i = true := by
  intro k
  induction k with
  | zero => exact ⟨fun h => by rw [show rS se al n 0 = 0 from rfl, Nat.zero_testBit] at h; exact absurd h (by decide), fun ⟨z, h, _⟩ => by omega⟩
  | succ k ih =>
    rw [show rS se al n (k + 1) = rS se al n k ||| stS se al (2 ^ k) n.toNat from rfl, Nat.testBit_or, Bool.or_eq_true, ih, stS_bit]
    exact ⟨fun h => h.elim (fun ⟨z, z0, z1⟩ => ⟨z, by omega, z1⟩) (fun ⟨z, z0, z1, z2⟩ => by
        rw [Nat.testBit_two_pow, decide_eq_true_eq] at z1
        subst z1
        exact ⟨k, by omega, z0, z2⟩), fun ⟨z, z0, z1, z2⟩ => by
        by_cases y : z = k
        · subst y; exact Or.inr ⟨z, z1, by rw [Nat.testBit_two_pow]; exact decide_eq_true rfl, z2⟩
        · exact Or.inl ⟨z, by omega, z1, z2⟩⟩
theorem rS_all (se : Int → Int) (al : Int → Nat) (n : Int) : stS se al (2 ^ n.toNat - 1) n.toNat = rS se al n n.toNat := by
  refine Nat.eq_of_testBit_eq (fun i => ?_)
  have h : (stS se al (2 ^ n.toNat - 1) n.toNat).testBit i = true ↔ (rS se al n n.toNat).testBit i = true := by
    rw [stS_bit, rS_bit]
    exact ⟨fun ⟨z, z0, _, z2⟩ => ⟨z, z0, z0, z2⟩, fun ⟨z, z0, _, z2⟩ => ⟨z, z0, by rw [Nat.testBit_two_pow_sub_one]; exact decide_eq_true z0, z2⟩⟩
  cases a : (stS se al (2 ^ n.toNat - 1) n.toNat).testBit i <;> cases b : (rS se al n n.toNat).testBit i
  · rfl
  · rw [a, b] at h; exact absurd (h.mpr rfl) (by decide)
  · rw [a, b] at h; exact absurd (h.mp rfl) (by decide)
  · rfl
theorem xor_bit (m j i : Nat) : (m ^^^ 2 ^ j).testBit i = (if i = j then !m.testBit i else m.testBit i) := by
  rw [Nat.testBit_xor, Nat.testBit_two_pow]
  by_cases c : i = j
  · rw [if_pos c, decide_eq_true c.symm]; cases m.testBit i <;> rfl
  · rw [if_neg c, decide_eq_false (fun z => c z.symm)]; cases m.testBit i <;> rfl
theorem pop_xor (m j : Nat) : ∀ k : Nat, (k ≤ j → pop (m ^^^ 2 ^ j) k = pop m k) ∧ (j < k → (m.testBit j = true → pop (m ^^^ 2 ^ j) k + 1 = pop m k) ∧ (¬ m.testBit j = true → pop (m ^^^ 2 ^ j) k = pop m k + 1)) := by
  intro k
  induction k with
  | zero => exact ⟨fun _ => rfl, fun h => by omega⟩
  | succ k ih =>
    have e : ∀ q : Nat, pop q (k + 1) = pop q k + (if q.testBit k = true then 1 else 0) := fun q => rfl
    rw [e, e, xor_bit]
    by_cases c : k = j
    · subst c
      refine ⟨fun z => by omega, fun _ => ⟨fun z => ?_, fun z => ?_⟩⟩
      · rw [ih.1 (Nat.le_refl _), if_pos rfl, z]; rfl
      · rw [ih.1 (Nat.le_refl _), if_pos rfl, Bool.not_eq_true] at *
        rw [z]; rfl
    · rw [if_neg c]
      refine ⟨fun z => by rw [ih.1 (by omega)], fun z => ⟨fun y => ?_, fun y => ?_⟩⟩
      · have w := (ih.2 (by omega)).1 y; omega
      · have w := (ih.2 (by omega)).2 y; omega
