/-! WHAT isSame COUNTS -/
theorem irem_nn {a n : Int} (ha : 0 ≤ a ∧ a ≤ 2147483647) (hn : 1 ≤ n ∧ n ≤ 100000) : iI a - iI a / iI n * iI n = iI (a % n) := by
  have hk0 : 0 ≤ a / n := Int.ediv_nonneg ha.1 (by omega)
  have hk1 : a / n ≤ a := Int.ediv_le_self _ ha.1
  have hd : iI a / iI n = iI (a / n) := by
    apply Int32.toInt_inj.mp
    rw [Int32.toInt_div, iI_t (by omega), iI_t (by omega), iI_t (by omega), Int.tdiv_eq_ediv_of_nonneg ha.1]
    exact Int.bmod_eq_of_le (by omega) (by omega)
  rw [hd, iI_mul, iI_sub]
  congr 1
  rw [Int.emod_def, Int.mul_comm]
theorem mod_r {a n : Int} (hn : 1 ≤ n) : 0 ≤ a % n ∧ a % n < n := ⟨Int.emod_nonneg _ (by omega), Int.emod_lt_of_pos _ (by omega)⟩
/-- headings' see alsos, by hand and by mask -/
def AL2 (S : SA) (al : Int → Nat) (n : Int) : Prop := ∀ u : Int, 0 ≤ u → u < n → sM S u = ((pop (al u) 24 : Nat) : Int) ∧ (∀ j k : Int, 0 ≤ j → j < k → k < sM S u → sV S u j ≠ sV S u k) ∧ (∀ k : Int, 0 ≤ k → k < sM S u → 0 ≤ sV S u k ∧ sV S u k < n) ∧ ∀ i : Int, 0 ≤ i → ((al u).testBit i.toNat = true ↔ ∃ k : Int, 0 ≤ k ∧ k < sM S u ∧ sV S u k = i)
/-- one step from u to i -/
def STP (se : Int → Int) (al : Int → Nat) (u i : Int) : Prop := se u = i ∨ (al u).testBit i.toNat = true
def LED (se : Int → Int) (al : Int → Nat) (o i : Int) : Prop := ∃ u : Int, 0 ≤ u ∧ u < o ∧ STP se al u i
theorem led_s {se : Int → Int} {al : Int → Nat} {o i : Int} (ho : 0 ≤ o) : LED se al (o + 1) i ↔ LED se al o i ∨ STP se al o i := by
  constructor
  · rintro ⟨u, u0, u1, u2⟩
    by_cases e : u = o
    · subst e; exact Or.inr u2
    · exact Or.inl ⟨u, u0, by omega, u2⟩
  · rintro (⟨u, u0, u1, u2⟩ | u2)
    · exact ⟨u, u0, by omega, u2⟩
    · exact ⟨o, ho, by omega, u2⟩
theorem led_0 {se : Int → Int} {al : Int → Nat} {i : Int} : ¬ LED se al 0 i := fun ⟨u, u0, u1, _⟩ => by omega
/-- truths: of the numbers up to n, those of P are set -/
def TRU (wf : Int → Int) (n : Int) (P : Int → Prop) : Prop := (∀ k, wf k = 0 ∨ wf k = 1) ∧ ∀ i : Int, 0 ≤ i → i < n → (wf i = 1 ↔ P i)
theorem tru_s {wf : Int → Int} {n y : Int} {P Q : Int → Prop} (h : TRU wf n P) (hQ : ∀ i : Int, 0 ≤ i → i < n → (Q i ↔ P i ∨ y = i)) : TRU (upI wf y 1) n Q := by
  refine ⟨upI_01 h.1 (Or.inr rfl), fun i i0 i1 => ?_⟩
  rw [hQ i i0 i1]
  by_cases e : i = y
  · subst e; rw [upI_s]; exact ⟨fun _ => Or.inr rfl, fun _ => rfl⟩
  · rw [upI_n _ _ e, h.2 i i0 i1]
    exact ⟨fun z => Or.inl z, fun z => z.elim id (fun z => absurd z.symm e)⟩
theorem tru_c {wf : Int → Int} {n : Int} {P Q : Int → Prop} (h : TRU wf n P) (hQ : ∀ i : Int, 0 ≤ i → i < n → (Q i ↔ P i)) : TRU wf n Q := ⟨h.1, fun i i0 i1 => (h.2 i i0 i1).trans (hQ i i0 i1).symm⟩
theorem tru_0 {n : Int} {P : Int → Prop} (hP : ∀ i, ¬ P i) : TRU (fun _ => 0) n P := ⟨fun _ => Or.inl rfl, fun i _ _ => ⟨fun z => absurd (show (0 : Int) = 1 from z) (by decide), fun z => (hP i z).elim⟩⟩
def LEJ (se : Int → Int) (al : Int → Nat) (S : SA) (o j i : Int) : Prop := (LED se al o i ∨ se o = i) ∨ ∃ k : Int, 0 ≤ k ∧ k < j ∧ sV S o k = i
theorem lej_0 {se : Int → Int} {al : Int → Nat} {S : SA} {o i : Int} : LEJ se al S o 0 i ↔ LED se al o i ∨ se o = i := ⟨fun z => z.elim id (fun ⟨k, k0, k1, _⟩ => by omega), Or.inl⟩
theorem lej_s {se : Int → Int} {al : Int → Nat} {S : SA} {o j i : Int} (hj : 0 ≤ j) : LEJ se al S o (j + 1) i ↔ LEJ se al S o j i ∨ sV S o j = i := by
  constructor
  · rintro (z | ⟨k, k0, k1, k2⟩)
    · exact Or.inl (Or.inl z)
    · by_cases e : k = j
      · subst e; exact Or.inr k2
      · exact Or.inl (Or.inr ⟨k, k0, by omega, k2⟩)
  · rintro ((z | ⟨k, k0, k1, k2⟩) | z)
    · exact Or.inl z
    · exact Or.inr ⟨k, k0, by omega, k2⟩
    · exact Or.inr ⟨j, hj, by omega, z⟩
theorem lej_e {se : Int → Int} {al : Int → Nat} {S : SA} {n o i : Int} (h : AL2 S al n) (ho : 0 ≤ o ∧ o < n) (hi : 0 ≤ i) : LEJ se al S o (sM S o) i ↔ LED se al (o + 1) i := by
  rw [led_s ho.1]
  unfold LEJ STP
  rw [(h o ho.1 ho.2).2.2.2 i hi]
  constructor
  · rintro ((z | z) | z)
    · exact Or.inl z
    · exact Or.inr (Or.inl z)
    · exact Or.inr (Or.inr z)
  · rintro (z | z | z)
    · exact Or.inl (Or.inl z)
    · exact Or.inl (Or.inr z)
    · exact Or.inr z
theorem pop_smI (m : Nat) : ∀ k : Nat, ((pop m k : Nat) : Int) = smI (fun i => pI (m.testBit i.toNat = true)) k
  | 0 => rfl
  | k + 1 => by
    show (((pop m k + (if m.testBit k = true then 1 else 0)) : Nat) : Int) = smI (fun i => pI (m.testBit i.toNat = true)) k + pI (m.testBit ((k : Int)).toNat = true)
    rw [← pop_smI m k, show ((k : Int)).toNat = k by omega]
    by_cases c : m.testBit k = true
    · rw [if_pos c, pI_t c]; omega
    · rw [if_neg c, pI_f c]; omega
theorem smI_tl {f : Int → Int} {n : Nat} (hf : ∀ i : Int, n ≤ i → f i = 0) : ∀ d : Nat, smI f (n + d) = smI f n
  | 0 => rfl
  | d + 1 => by
    show smI f (n + d) + f ((n + d : Nat) : Int) = _
    rw [smI_tl hf d, hf _ (by omega)]; omega
theorem pop_n {m : Nat} {n : Int} (hn : 0 ≤ n ∧ n ≤ 24) (hm : m < 2 ^ n.toNat) : ((pop m 24 : Nat) : Int) = smI (fun i => pI (m.testBit i.toNat = true)) n.toNat := by
  rw [pop_smI, show (24 : Nat) = n.toNat + (24 - n.toNat) by omega]
  refine smI_tl (fun i hi => pI_f (fun z => ?_)) _
  rw [Nat.testBit_lt_two_pow (Nat.lt_of_lt_of_le hm (Nat.pow_le_pow_right (by decide) (by omega)))] at z
  cases z
theorem smI_not {P : Int → Prop} : ∀ n : Nat, smI (fun i => pI (¬ P i)) n = n - smI (fun i => pI (P i)) n
  | 0 => rfl
  | n + 1 => by
    show smI (fun i => pI (¬ P i)) n + pI (¬ P n) = ((n + 1 : Nat) : Int) - (smI (fun i => pI (P i)) n + pI (P n))
    rw [smI_not n]
    by_cases c : P n
    · rw [pI_t c, pI_f (fun z => z c)]; omega
    · rw [pI_f c, pI_t c]; omega
theorem sb_bit {x i : Int} (hx : -1 ≤ x) (hi : 0 ≤ i) : (sb x).testBit i.toNat = true ↔ x = i := by
  unfold sb
  by_cases c : x = -1
  · rw [if_pos c]
    simp
    omega
  · rw [if_neg c, Nat.testBit_two_pow]
    simp
    omega
theorem all_led {se : Int → Int} {al : Int → Nat} {n i : Int} (hg : GR se al n) (hn : 0 ≤ n) (hi : 0 ≤ i) : (stS se al (2 ^ n.toNat - 1) n.toNat).testBit i.toNat = true ↔ LED se al n i := by
  rw [stS_bit]
  constructor
  · rintro ⟨z, z0, -, z2⟩
    refine ⟨z, by omega, by omega, ?_⟩
    have g := hg.1 z (by omega) (by omega)
    rw [Nat.testBit_or, Bool.or_eq_true, sb_bit g.1 hi] at z2
    exact z2.elim Or.inr Or.inl
  · rintro ⟨u, u0, u1, u2⟩
    have g := hg.1 u u0 u1
    refine ⟨u.toNat, by omega, ?_, ?_⟩
    · rw [Nat.testBit_two_pow_sub_one]; simp; omega
    · rw [show ((u.toNat : Nat) : Int) = u by omega, Nat.testBit_or, Bool.or_eq_true, sb_bit g.1 hi]
      exact u2.elim Or.inr Or.inl
theorem unl_eq {se : Int → Int} {al : Int → Nat} {n : Int} {P : Int → Prop} (hg : GR se al n) (hn : 0 ≤ n ∧ n ≤ 24) (hP : ∀ i : Int, 0 ≤ i → i < n → (P i ↔ LED se al n i)) : smI (fun i => pI (¬ P i)) n.toNat = UNL se al n := by
  show _ = n - ((pop (stS se al (2 ^ n.toNat - 1) n.toNat) 24 : Nat) : Int)
  rw [smI_not, pop_n hn (stS_lt hg _ _ (by omega)), show ((n.toNat : Nat) : Int) = n by omega]
  congr 1
  exact smI_c (fun i i0 i1 => pI_c (by rw [hP i i0 (by omega), all_led hg hn.1 i0]))
/-- the fullest of the pages behind p -/
def FLP (c : Int → Int) (pg p f : Int) : Prop := (1 ≤ f ∧ f ≤ pg) ∧ (p = pg → f = pg) ∧ (p < pg → p < f ∧ (∀ x : Int, p < x → x ≤ pg → c x ≤ c f) ∧ ∀ x : Int, p < x → x < f → c x < c f)
theorem flp_0 {c : Int → Int} {pg : Int} (h : 1 ≤ pg) : FLP c pg pg pg := ⟨by omega, fun _ => rfl, fun z => by omega⟩
theorem flp_y {c : Int → Int} {pg p f : Int} (h : FLP c pg p f) (hp : 1 ≤ p ∧ p ≤ pg) (hc : c f ≤ c p) : FLP c pg (p - 1) p := by
  refine ⟨hp, fun z => by omega, fun _ => ⟨by omega, fun x x0 x1 => ?_, fun x x0 x1 => by omega⟩⟩
  by_cases e : x = p
  · rw [e]; exact Int.le_refl _
  · have w := (h.2.2 (by omega)).2.1 x (by omega) x1
    omega
theorem flp_n {c : Int → Int} {pg p f : Int} (h : FLP c pg p f) (hp : 1 ≤ p ∧ p ≤ pg) (hc : c p < c f) : FLP c pg (p - 1) f := by
  have e1 : p ≠ pg := fun e => by have w := h.2.1 e; rw [w, e] at hc; omega
  have w := h.2.2 (by omega)
  refine ⟨h.1, fun z => by omega, fun _ => ⟨by omega, fun x x0 x1 => ?_, fun x x0 x1 => ?_⟩⟩
  · by_cases e : x = p
    · rw [e]; omega
    · exact w.2.1 x (by omega) x1
  · by_cases e : x = p
    · rw [e]; exact hc
    · exact w.2.2 x (by omega) x1
theorem flS_sp (c : Int → Int) : ∀ n : Nat, (1 ≤ flS c n ∧ flS c n ≤ n + 1) ∧ (∀ x : Int, 1 ≤ x → x ≤ n + 1 → c x ≤ c (flS c n)) ∧ ∀ x : Int, 1 ≤ x → x < flS c n → c x < c (flS c n)
  | 0 => by
    refine ⟨by show (1 : Int) ≤ 1 ∧ (1 : Int) ≤ ((0 : Nat) : Int) + 1; decide, fun x h0 h1 => ?_, fun x h0 h1 => ?_⟩
    · have e : x = 1 := by omega
      rw [e]; exact Int.le_refl _
    · have h1 : x < 1 := h1
      omega
  | n + 1 => by
    obtain ⟨a1, a2, a3⟩ := flS_sp c n
    have hy := flS_y (c := c) (p := (n : Int) + 2) (b := flS c n) (by omega) (by rw [show ((n : Int) + 2 - 2).toNat = n by omega])
    have hn2 := flS_n (c := c) (p := (n : Int) + 2) (b := flS c n) (by omega) (by rw [show ((n : Int) + 2 - 2).toNat = n by omega])
    rw [show ((n : Int) + 2 + 1 - 2).toNat = n + 1 by omega] at hy hn2
    by_cases k : c (flS c n) < c ((n : Int) + 2)
    · rw [hy k]
      refine ⟨by omega, fun x h0 h1 => ?_, fun x h0 h1 => ?_⟩
      · by_cases e : x = (n : Int) + 2
        · rw [e]; exact Int.le_refl _
        · have := a2 x h0 (by omega); omega
      · have := a2 x h0 (by omega); omega
    · rw [hn2 (by omega)]
      refine ⟨by omega, fun x h0 h1 => ?_, a3⟩
      by_cases e : x = (n : Int) + 2
      · rw [e]; omega
      · exact a2 x h0 (by omega)
theorem flp_e {c : Int → Int} {pg f : Int} (h : FLP c pg 0 f) (hp : 1 ≤ pg) : f = flS c (pg - 1).toNat := by
  have w := flS_sp c (pg - 1).toNat
  have v := h.2.2 (by omega)
  have e : (((pg - 1).toNat : Nat) : Int) + 1 = pg := by omega
  rw [e] at w
  rcases Int.lt_trichotomy f (flS c (pg - 1).toNat) with k | k | k
  · have a := w.2.2 f (by omega) k
    have b := v.2.1 _ (show 0 < flS c (pg - 1).toNat by omega) w.1.2
    omega
  · exact k
  · have a := v.2.2 _ (show 0 < flS c (pg - 1).toNat by omega) k
    have b := w.2.1 f (by omega) h.1.2
    omega
/-- what is known of the class's cells and the law's -/
def HZ (ad : Int → Nat) (zb zc : Nat) : Prop := ∀ q : Nat, AX ad q → zb ≤ q ∧ q < zc
abbrev XF (ad : Int → Nat) (n pg : Int) : List Value := [.ref (ad 1), .ref (ad 2), .ref (ad 3), .ref (ad 4), .ref (ad (5 + 3 * 24)), .ref (ad (5 + 3 * 25)), .ref (ad (5 + 3 * 26)), .int (iI n), .int (iI pg)]
theorem CA.cx {E : EN} {ad : Int → Nat} {sp : Int → SpT} {se : Int → Int} {al : Int → Nat} {n pg : Int} {H : Heap} (h : CA E ad sp se al n pg H) : va_at E.1 vwCl (ad 0, .inr (1, XF ad n pg)) H := by
  obtain ⟨x, hx, h⟩ := h
  exact cw_x h
theorem SX.keepL {E : EN} {zc sm : Nat} {S : SA} {sp : Int → SpT} {se : Int → Int} {n : Int} {z x : Nat} {H H1 : Heap} (h : SX E zc sm S sp se n H) (hl : LTS z S sp n) (hx : z ≤ x) (oq : ∀ q : Nat, q ≠ x → H1[q]? = H[q]?) : SX E zc sm S sp se n H1 := by
  obtain ⟨l3, l1, l2, lu⟩ := hl
  refine ⟨h.1.kept (oq _ ?_), h.2.1.kept (oq _ ?_), h.2.2.1.kept (oq _ ?_), fun u u0 u1 => ⟨⟨(h.2.2.2.1 u u0 u1).1.1.kept (oq _ ?_), fun k k0 k1 => ((h.2.2.2.1 u u0 u1).1.2 k k0 k1).kept (oq _ ?_)⟩, (h.2.2.2.1 u u0 u1).2.kept (oq _ ?_)⟩, h.tg⟩
  · show s3 S ≠ x; omega
  · show s1 S ≠ x; omega
  · show s2 S ≠ x; omega
  · have := (lu u u0 u1).1; show sB S u ≠ x; omega
  · have := (lu u u0 u1).2.2 k k0 k1; show sR S u k ≠ x; omega
  · have := (lu u u0 u1).2.1; show sD S u ≠ x; omega
theorem bare_s {f : Int → Int} {bb v pv B : Int} (h : bb + smI f pv.toNat = B) (hp : 1 ≤ pv) (hv : v = f (pv - 1)) : bb + v + smI f (pv + -1).toNat = B := by
  have w := smI_p f hp
  rw [show pv + 1 - 1 = pv by omega] at w
  rw [show pv + -1 = pv - 1 by omega, hv]
  omega
