/-! COUNTS AND WALKS that both sides share -/
theorem smI_p (f : Int → Int) {p : Int} (h : 1 ≤ p) : smI f (p + 1 - 1).toNat = smI f (p - 1).toNat + f (p - 1) := by
  have e := smI_s f (z := p - 1) (by omega)
  rw [show p - 1 + 1 = p + 1 - 1 by omega] at e
  exact e
theorem smI_c {f g : Int → Int} : ∀ {n : Nat}, (∀ k : Int, 0 ≤ k → k < n → f k = g k) → smI f n = smI g n
  | 0, _ => rfl
  | n + 1, h => by
    show smI f n + f n = smI g n + g n
    rw [smI_c (n := n) (fun k h0 h1 => h k h0 (by omega)), h n (by omega) (by omega)]
theorem smI_b {f : Int → Int} {a b : Int} (hab : a ≤ 0 ∧ 0 ≤ b) : ∀ {n : Nat}, (∀ k : Int, 0 ≤ k → k < n → a ≤ f k ∧ f k ≤ b) → a * n ≤ smI f n ∧ smI f n ≤ b * n
  | 0, _ => by simp [smI]
  | n + 1, h => by
    have h1 := smI_b hab (n := n) (fun k h0 h2 => h k h0 (by omega))
    have h2 := h n (by omega) (by omega)
    show a * ((n + 1 : Nat) : Int) ≤ smI f n + f n ∧ smI f n + f n ≤ b * ((n + 1 : Nat) : Int)
    rw [show ((n + 1 : Nat) : Int) = (n : Int) + 1 from rfl, Int.mul_add, Int.mul_add]
    omega
theorem smI_01 {f : Int → Int} {z : Int} (hz : 0 ≤ z) (h : ∀ k : Int, 0 ≤ k → k < z → 0 ≤ f k ∧ f k ≤ 1) : 0 ≤ smI f z.toNat ∧ smI f z.toNat ≤ z := by
  have h1 := smI_b (f := f) (a := 0) (b := 1) (by omega) (n := z.toNat) (fun k h0 h1 => h k h0 (by omega))
  omega
theorem pI_b (P : Prop) : 0 ≤ pI P ∧ pI P ≤ 1 := by
  rcases pI_01 P with h | h <;> rw [h] <;> omega
theorem pI_eq1 {P : Prop} (h : pI P = 1) : P := Classical.byContradiction fun z => by rw [pI_f z] at h; omega
theorem pI_ne0 {P : Prop} (h : pI P ≠ 0) : P := Classical.byContradiction fun z => h (pI_f z)
theorem pI_eq0 {P : Prop} (h : pI P = 0) : ¬ P := fun z => by rw [pI_t z] at h; omega
theorem pI_ne1 {P : Prop} (h : pI P ≠ 1) : ¬ P := fun z => h (pI_t z)
/-- the spans of a set of pages, those with so many pages between or fewer as one: how many, and the last page seen -/
noncomputable def spS (P : Int → Prop) (gap : Int) : Nat → Int × Int
  | 0 => (0, -1)
  | k + 1 => @ite _ (P ((k : Int) + 1)) (Classical.propDecidable _) ((if (spS P gap k).2 = -1 ∨ gap < (k : Int) + 1 - (spS P gap k).2 - 1 then (spS P gap k).1 + 1 else (spS P gap k).1), (k : Int) + 1) (spS P gap k)
theorem spS_y {P : Int → Prop} {gap p m la : Int} (h : 1 ≤ p) (hP : P p) (hm : spS P gap (p - 1).toNat = (m, la)) : spS P gap (p + 1 - 1).toNat = ((if la = -1 ∨ gap < p - la - 1 then m + 1 else m), p) := by
  rw [show (p + 1 - 1).toNat = (p - 1).toNat + 1 by omega]
  have e : ((p - 1).toNat : Int) + 1 = p := by omega
  show @ite _ (P (((p - 1).toNat : Int) + 1)) (Classical.propDecidable _) _ _ = _
  rw [e, if_pos hP, hm]
theorem spS_n {P : Int → Prop} {gap p m la : Int} (h : 1 ≤ p) (hP : ¬ P p) (hm : spS P gap (p - 1).toNat = (m, la)) : spS P gap (p + 1 - 1).toNat = (m, la) := by
  rw [show (p + 1 - 1).toNat = (p - 1).toNat + 1 by omega]
  have e : ((p - 1).toNat : Int) + 1 = p := by omega
  show @ite _ (P (((p - 1).toNat : Int) + 1)) (Classical.propDecidable _) _ _ = _
  rw [e, if_neg hP, hm]
/-- the best of n: the first with the most; -1 where none has more than 0 -/
noncomputable def nrS (c : Int → Int) : Nat → Int × Int
  | 0 => (-1, 0)
  | k + 1 => if (nrS c k).2 < c k then ((k : Int), c k) else nrS c k
theorem nrS_y {c : Int → Int} {z b m : Int} (hz : 0 ≤ z) (hm : nrS c z.toNat = (b, m)) (h : m < c z) : nrS c (z + 1).toNat = (z, c z) := by
  rw [show (z + 1).toNat = z.toNat + 1 by omega]
  show (if (nrS c z.toNat).2 < c (z.toNat : Int) then (((z.toNat : Nat) : Int), c (z.toNat : Int)) else nrS c z.toNat) = _
  rw [hm, Int.toNat_of_nonneg hz, if_pos h]
theorem nrS_n {c : Int → Int} {z b m : Int} (hz : 0 ≤ z) (hm : nrS c z.toNat = (b, m)) (h : c z ≤ m) : nrS c (z + 1).toNat = (b, m) := by
  rw [show (z + 1).toNat = z.toNat + 1 by omega]
  show (if (nrS c z.toNat).2 < c (z.toNat : Int) then (((z.toNat : Nat) : Int), c (z.toNat : Int)) else nrS c z.toNat) = _
  rw [hm, Int.toNat_of_nonneg hz, if_neg (by show ¬ m < c z; omega)]
theorem nrS_c {f g : Int → Int} : ∀ {n : Nat}, (∀ k : Int, 0 ≤ k → k < n → f k = g k) → nrS f n = nrS g n
  | 0, _ => rfl
  | n + 1, h => by
    show (if (nrS f n).2 < f n then ((n : Int), f n) else nrS f n) = if (nrS g n).2 < g n then ((n : Int), g n) else nrS g n
    rw [nrS_c (n := n) (fun k h0 h1 => h k h0 (by omega)), h n (by omega) (by omega)]
/-- the fullest page: from page 2 on, the first with the most -/
noncomputable def flS (c : Int → Int) : Nat → Int
  | 0 => 1
  | k + 1 => if c (flS c k) < c ((k : Int) + 2) then (k : Int) + 2 else flS c k
theorem flS_y {c : Int → Int} {p b : Int} (hz : 2 ≤ p) (hm : flS c (p - 2).toNat = b) (h : c b < c p) : flS c (p + 1 - 2).toNat = p := by
  rw [show (p + 1 - 2).toNat = (p - 2).toNat + 1 by omega]
  have e : ((p - 2).toNat : Int) + 2 = p := by omega
  show (if c (flS c (p - 2).toNat) < c (((p - 2).toNat : Int) + 2) then ((p - 2).toNat : Int) + 2 else _) = _
  rw [hm, e, if_pos h]
theorem flS_n {c : Int → Int} {p b : Int} (hz : 2 ≤ p) (hm : flS c (p - 2).toNat = b) (h : c p ≤ c b) : flS c (p + 1 - 2).toNat = b := by
  rw [show (p + 1 - 2).toNat = (p - 2).toNat + 1 by omega]
  have e : ((p - 2).toNat : Int) + 2 = p := by omega
  show (if c (flS c (p - 2).toNat) < c (((p - 2).toNat : Int) + 2) then ((p - 2).toNat : Int) + 2 else _) = _
  rw [hm, e, if_neg (by omega)]
theorem flS_c {f g : Int → Int} : ∀ {n : Nat}, (∀ k : Int, 1 ≤ k → k ≤ n + 1 → f k = g k) → flS f n = flS g n ∧ 1 ≤ flS f n ∧ flS f n ≤ n + 1
  | 0, _ => ⟨rfl, by show (1 : Int) ≤ 1; decide, by show (1 : Int) ≤ ((0 : Nat) : Int) + 1; decide⟩
  | n + 1, h => by
    have h1 := flS_c (n := n) (fun k h0 h1 => h k h0 (by omega))
    show (if f (flS f n) < f ((n : Int) + 2) then (n : Int) + 2 else flS f n) = (if g (flS g n) < g ((n : Int) + 2) then (n : Int) + 2 else flS g n) ∧ _ ≤ (if f (flS f n) < f ((n : Int) + 2) then (n : Int) + 2 else flS f n) ∧ (if f (flS f n) < f ((n : Int) + 2) then (n : Int) + 2 else flS f n) ≤ _
    rw [← h1.1, ← h _ h1.2.1 (by omega), ← h ((n : Int) + 2) (by omega) (by omega)]
    refine ⟨rfl, ?_⟩
    split <;> omega
/-- following the sees, so many times -/
def eS (se : Int → Int) : Nat → Int → Int
  | 0, _ => -1
  | k + 1, x => if se x = -1 then x else eS se k (se x)
theorem eS_y {se : Int → Int} {t x : Int} (ht : 0 < t) (h : se x = -1) : eS se t.toNat x = x := by
  rw [show t.toNat = (t - 1).toNat + 1 by omega]
  show (if se x = -1 then x else _) = _
  rw [if_pos h]
theorem eS_n {se : Int → Int} {t x : Int} (ht : 0 < t) (h : se x ≠ -1) : eS se t.toNat x = eS se (t - 1).toNat (se x) := by
  rw [show t.toNat = (t - 1).toNat + 1 by omega]
  show (if se x = -1 then x else _) = _
  rw [if_neg h]
theorem eS_rng {se : Int → Int} {n : Int} (hs : ∀ k : Int, 0 ≤ k → k < n → -1 ≤ se k ∧ se k < n) : ∀ (t : Nat) (x : Int), 0 ≤ x → x < n → eS se t x = -1 ∨ (0 ≤ eS se t x ∧ eS se t x < n)
  | 0, x, _, _ => Or.inl rfl
  | t + 1, x, h0, h1 => by
    show (if se x = -1 then x else eS se t (se x)) = -1 ∨ (0 ≤ (if se x = -1 then x else eS se t (se x)) ∧ (if se x = -1 then x else eS se t (se x)) < n)
    by_cases e : se x = -1
    · rw [if_pos e]; exact Or.inr ⟨h0, h1⟩
    · rw [if_neg e]
      have h2 := hs x h0 h1
      exact eS_rng hs t (se x) (by omega) h2.2
/-! MASKS -/
theorem bit_le {m j : Nat} (h : m < 2 ^ 24) : m < 2147483648 := by have : (2 : Nat) ^ 24 = 16777216 := rfl; omega
theorem iI_or (a b : Nat) : iI (a : Int) ||| iI (b : Int) = iI ((a ||| b : Nat) : Int) := by
  rw [iI_nat, iI_nat, iI_nat]
  apply Int32.toBitVec_inj.mp
  show BitVec.ofNat 32 a ||| BitVec.ofNat 32 b = BitVec.ofNat 32 (a ||| b)
  apply BitVec.eq_of_getLsbD_eq
  intro i hi
  simp [BitVec.getLsbD_ofNat, hi]
theorem iI_and (a b : Nat) : iI (a : Int) &&& iI (b : Int) = iI ((a &&& b : Nat) : Int) := by
  rw [iI_nat, iI_nat, iI_nat]
  apply Int32.toBitVec_inj.mp
  show BitVec.ofNat 32 a &&& BitVec.ofNat 32 b = BitVec.ofNat 32 (a &&& b)
  apply BitVec.eq_of_getLsbD_eq
  intro i hi
  simp [BitVec.getLsbD_ofNat, hi]
theorem iI_xor (a b : Nat) : iI (a : Int) ^^^ iI (b : Int) = iI ((a ^^^ b : Nat) : Int) := by
  rw [iI_nat, iI_nat, iI_nat]
  apply Int32.toBitVec_inj.mp
  show BitVec.ofNat 32 a ^^^ BitVec.ofNat 32 b = BitVec.ofNat 32 (a ^^^ b)
  apply BitVec.eq_of_getLsbD_eq
  intro i hi
  simp [BitVec.getLsbD_ofNat, hi]
theorem iI_shl1 {x : Int} (h : 0 ≤ x ∧ x ≤ 30) : iI 1 <<< (iI x &&& 31) = iI ((2 ^ x.toNat : Nat) : Int) := by
  obtain ⟨k, hk, rfl⟩ : ∃ k : Nat, k ≤ 30 ∧ x = (k : Int) := ⟨x.toNat, by omega, by omega⟩
  rw [Int.toNat_natCast]
  have H : ∀ j : Nat, j < 31 → iI 1 <<< (iI ((j : Nat) : Int) &&& 31) = iI ((2 ^ j : Nat) : Int) := by decide +kernel
  exact H k (by omega)
theorem iI_bit {m : Nat} {x : Int} (hm : m < 2 ^ 24) (h : 0 ≤ x ∧ x ≤ 23) : (iI (m : Int) >>> (iI x &&& 31)) &&& iI 1 = iI (pI (m.testBit x.toNat = true)) := by
  obtain ⟨k, hk, rfl⟩ : ∃ k : Nat, k ≤ 23 ∧ x = (k : Int) := ⟨x.toNat, by omega, by omega⟩
  rw [Int.toNat_natCast]
  have hs : ∀ j : Nat, j < 24 → ((nI j &&& 31).toBitVec.smod 32).toNat = j := by decide +kernel
  have hmm : m < 2 ^ 31 := Nat.lt_of_lt_of_le hm (by decide)
  rw [iI_nat, iI_nat k, pk_shrN hmm (nI k &&& 31) k (hs k (by omega)), show iI 1 = iI ((1 : Nat) : Int) from rfl, ← iI_nat, iI_and]
  congr 1
  have h1 : m / 2 ^ k &&& 1 = (m / 2 ^ k) % 2 := Nat.and_one_is_mod _
  rw [h1]
  have h2 : m.testBit k = decide (m / 2 ^ k % 2 = 1) := by rw [Nat.testBit_eq_decide_div_mod_eq]
  rw [h2]
  by_cases c : m / 2 ^ k % 2 = 1
  · rw [pI_t (by rw [decide_eq_true c]), c]; rfl
  · rw [pI_f (by rw [decide_eq_false c]; decide), show m / 2 ^ k % 2 = 0 by omega]; rfl
def anN (s m : Nat) : Nat := s ^^^ (s &&& m)
theorem iI_andn {s m : Nat} : iI (s : Int) &&& (iI (m : Int) ^^^ iI (-1)) = iI ((anN s m : Nat) : Int) := by
  rw [iI_nat, iI_nat, iI_nat]
  apply Int32.toBitVec_inj.mp
  show BitVec.ofNat 32 s &&& (BitVec.ofNat 32 m ^^^ (iI (-1)).toBitVec) = BitVec.ofNat 32 (anN s m)
  have e : (iI (-1)).toBitVec = BitVec.allOnes 32 := by decide
  rw [e]
  apply BitVec.eq_of_getLsbD_eq
  intro i hi
  simp only [BitVec.getLsbD_and, BitVec.getLsbD_xor, BitVec.getLsbD_ofNat, BitVec.getLsbD_allOnes, hi, anN, Nat.testBit_xor, Nat.testBit_and, decide_true, Bool.true_and]
  cases s.testBit i <;> cases m.testBit i <;> rfl
theorem anN_0 {s m : Nat} : anN s m = 0 ↔ m ||| s = m := by
  unfold anN
  constructor
  · intro h
    apply Nat.eq_of_testBit_eq
    intro i
    have h1 : (s ^^^ (s &&& m)).testBit i = false := by rw [h]; simp
    simp only [Nat.testBit_xor, Nat.testBit_and, Nat.testBit_or] at h1 ⊢
    revert h1
    cases s.testBit i <;> cases m.testBit i <;> simp
  · intro h
    apply Nat.eq_of_testBit_eq
    intro i
    have h1 : (m ||| s).testBit i = m.testBit i := by rw [h]
    simp only [Nat.testBit_xor, Nat.testBit_and, Nat.testBit_or] at h1 ⊢
    revert h1
    cases s.testBit i <;> cases m.testBit i <;> simp
theorem anN_le (s m : Nat) (hs : s < 2 ^ 24) : anN s m < 2 ^ 24 := Nat.xor_lt_two_pow hs (Nat.lt_of_le_of_lt Nat.and_le_left hs)
theorem or_lt {a b : Nat} (ha : a < 2 ^ 24) (hb : b < 2 ^ 24) : a ||| b < 2 ^ 24 := Nat.or_lt_two_pow ha hb
theorem pw_lt {x : Int} (h : 0 ≤ x ∧ x ≤ 23) : 2 ^ x.toNat < 2 ^ 24 := Nat.pow_lt_pow_right (by decide) (by omega)
theorem mk_r {m : Nat} (h : m < 2 ^ 24) : 0 ≤ (m : Int) ∧ (m : Int) ≤ 16777215 := by have : (2 : Nat) ^ 24 = 16777216 := rfl; omega
/-- what a heading's see adds to a mask -/
def sb (x : Int) : Nat := if x = -1 then 0 else 2 ^ x.toNat
/-- one step from some: from those of the first k headings -/
def stS (se : Int → Int) (al : Int → Nat) (m : Nat) : Nat → Nat
  | 0 => 0
  | k + 1 => if m.testBit k = true then stS se al m k ||| (al (k : Int) ||| sb (se (k : Int))) else stS se al m k
theorem stS_y {se : Int → Int} {al : Int → Nat} {m : Nat} {z : Int} (hz : 0 ≤ z) (h : m.testBit z.toNat = true) : stS se al m (z + 1).toNat = stS se al m z.toNat ||| (al z ||| sb (se z)) := by
  rw [show (z + 1).toNat = z.toNat + 1 by omega]
  show (if m.testBit z.toNat = true then stS se al m z.toNat ||| (al ((z.toNat : Nat) : Int) ||| sb (se ((z.toNat : Nat) : Int))) else stS se al m z.toNat) = _
  rw [if_pos h, Int.toNat_of_nonneg hz]
theorem stS_n {se : Int → Int} {al : Int → Nat} {m : Nat} {z : Int} (hz : 0 ≤ z) (h : ¬ m.testBit z.toNat = true) : stS se al m (z + 1).toNat = stS se al m z.toNat := by
  rw [show (z + 1).toNat = z.toNat + 1 by omega]
  show (if m.testBit z.toNat = true then _ else stS se al m z.toNat) = _
  rw [if_neg h]
/-- headings' sees and see alsos, as they should be: n headings -/
def GR (se : Int → Int) (al : Int → Nat) (n : Int) : Prop := (∀ k : Int, 0 ≤ k → k < n → -1 ≤ se k ∧ se k < n) ∧ ∀ k : Int, 0 ≤ k → k < n → al k < 2 ^ n.toNat
theorem sb_lt {n x : Int} (h : -1 ≤ x ∧ x < n) : sb x < 2 ^ n.toNat := by
  unfold sb
  by_cases e : x = -1
  · rw [if_pos e]; exact Nat.two_pow_pos _
  · rw [if_neg e]; exact Nat.pow_lt_pow_right (by decide) (by omega)
theorem stS_lt {se : Int → Int} {al : Int → Nat} {n : Int} (hg : GR se al n) (m : Nat) : ∀ (k : Nat), (k : Int) ≤ n → stS se al m k < 2 ^ n.toNat
  | 0, _ => Nat.two_pow_pos _
  | k + 1, h => by
    have h1 := stS_lt hg m k (by omega)
    show (if m.testBit k = true then stS se al m k ||| (al (k : Int) ||| sb (se (k : Int))) else stS se al m k) < _
    split
    · exact Nat.or_lt_two_pow h1 (Nat.or_lt_two_pow (hg.2 k (by omega) (by omega)) (sb_lt (hg.1 k (by omega) (by omega))))
    · exact h1
theorem lt24 {m : Nat} {n : Int} (hn : 0 ≤ n ∧ n ≤ 24) (h : m < 2 ^ n.toNat) : m < 2 ^ 24 := Nat.lt_of_lt_of_le h (Nat.pow_le_pow_right (by decide) (by omega))
/-! SPANS in their order, with a page between: up to page pg -/
def VL (g : SpT) (pg : Int) : Prop := 0 ≤ g.1 ∧ g.1 ≤ 16 ∧ (∀ k : Int, 0 ≤ k → k < g.1 → 1 ≤ g.2.1 k ∧ g.2.1 k ≤ g.2.2 k ∧ g.2.2 k ≤ pg) ∧ ∀ k : Int, 0 ≤ k → k + 1 < g.1 → g.2.2 k + 2 ≤ g.2.1 (k + 1)
theorem vl_mono {g : SpT} {pg : Int} (hv : VL g pg) {i : Int} (hi : 0 ≤ i) : ∀ (d : Nat), i + (d : Int) + 1 < g.1 → g.2.2 i + 2 ≤ g.2.1 (i + (d : Int) + 1)
  | 0, h => by
    have e : i + ((0 : Nat) : Int) + 1 = i + 1 := by omega
    rw [e] at h ⊢
    exact hv.2.2.2 i hi h
  | d + 1, h => by
    have h1 := vl_mono hv hi d (by omega)
    have h2 := hv.2.2.1 (i + (d : Int) + 1) (by omega) (by omega)
    have h3 := hv.2.2.2 (i + (d : Int) + 1) (by omega) (by omega)
    have e : i + ((d + 1 : Nat) : Int) + 1 = i + (d : Int) + 1 + 1 := by omega
    rw [e]
    omega
theorem vl_lt {g : SpT} {pg : Int} (hv : VL g pg) {i j : Int} (hi : 0 ≤ i) (hij : i < j) (hj : j < g.1) : g.2.2 i + 2 ≤ g.2.1 j := by
  have h := vl_mono hv hi (j - i - 1).toNat (by omega)
  have e : i + ((j - i - 1).toNat : Int) + 1 = j := by omega
  rw [e] at h
  exact h
theorem cov_at {g : SpT} {pg : Int} (hv : VL g pg) {a q : Int} (ha : 0 ≤ a ∧ a < g.1) (h1 : g.2.1 a ≤ q) (h2 : q ≤ g.2.2 a + 1) : cov g q ↔ q ≤ g.2.2 a := by
  constructor
  · intro ⟨k, k0, k1, k2, k3⟩
    rcases Int.lt_trichotomy k a with c | c | c
    · have h := vl_lt hv k0 c ha.2; omega
    · subst c; exact k3
    · have h := vl_lt hv ha.1 c k1; omega
  · intro h
    exact ⟨a, ha.1, ha.2, h1, h⟩
theorem cov_gap {g : SpT} {pg : Int} (hv : VL g pg) {a q : Int} (ha : 0 ≤ a ∧ a + 1 < g.1) (h1 : g.2.2 a + 1 ≤ q) (h2 : q ≤ g.2.1 (a + 1)) : cov g q ↔ q = g.2.1 (a + 1) := by
  constructor
  · intro ⟨k, k0, k1, k2, k3⟩
    rcases Int.lt_trichotomy k (a + 1) with c | c | c
    · by_cases e : k = a
      · subst e; omega
      · have h := vl_lt hv k0 (show k < a by omega) (by omega)
        have h9 := hv.2.2.1 a (by omega) (by omega)
        omega
    · subst c; omega
    · have h := vl_lt hv (show 0 ≤ a + 1 by omega) c k1
      have h9 := hv.2.2.1 (a + 1) (by omega) (by omega)
      omega
  · intro h
    have h9 := hv.2.2.1 (a + 1) (by omega) (by omega)
    exact ⟨a + 1, by omega, by omega, by omega, by omega⟩
theorem cov_lo {g : SpT} {pg : Int} (hv : VL g pg) {q : Int} (h0 : 0 < g.1) (h2 : q ≤ g.2.1 0) : cov g q ↔ q = g.2.1 0 := by
  have h9 := hv.2.2.1 0 (by omega) (by omega)
  constructor
  · intro ⟨k, k0, k1, k2, k3⟩
    by_cases e : k = 0
    · subst e; omega
    · have h := vl_lt hv (Int.le_refl 0) (show 0 < k by omega) k1
      omega
  · intro h
    exact ⟨0, by omega, by omega, by omega, by omega⟩
theorem vl_wb {g : SpT} {pg : Int} (hp : pg ≤ 300) (hv : VL g pg) : WB g := ⟨hv.1, hv.2.1, fun k h0 h1 => by have h := hv.2.2.1 k h0 h1; unfold bnd; omega⟩
/-! STEPS from mask to mask -/
def pop (m : Nat) : Nat → Nat
  | 0 => 0
  | k + 1 => pop m k + (if m.testBit k = true then 1 else 0)
theorem pop_le (m : Nat) : ∀ k, pop m k ≤ k
  | 0 => Nat.le_refl 0
  | k + 1 => by
    have h := pop_le m k
    show pop m k + (if m.testBit k = true then 1 else 0) ≤ k + 1
    split <;> omega
theorem pop_mono {a b : Nat} (h : ∀ i, a.testBit i = true → b.testBit i = true) : ∀ k, pop a k ≤ pop b k
  | 0 => Nat.le_refl 0
  | k + 1 => by
    have h1 := pop_mono h k
    show pop a k + (if a.testBit k = true then 1 else 0) ≤ pop b k + (if b.testBit k = true then 1 else 0)
    by_cases c : a.testBit k = true
    · rw [if_pos c, if_pos (h k c)]; omega
    · rw [if_neg c]; split <;> omega
theorem pop_lt {a b : Nat} (h : ∀ i, a.testBit i = true → b.testBit i = true) {j : Nat} (h1 : b.testBit j = true) (h2 : ¬ a.testBit j = true) : ∀ k, j < k → pop a k < pop b k
  | 0, hk => absurd hk (Nat.not_lt_zero j)
  | k + 1, hk => by
    show pop a k + (if a.testBit k = true then 1 else 0) < pop b k + (if b.testBit k = true then 1 else 0)
    by_cases e : j = k
    · subst e
      have h3 := pop_mono h j
      rw [if_neg h2, if_pos h1]; omega
    · have h3 := pop_lt h h1 h2 k (by omega)
      by_cases c : a.testBit k = true
      · rw [if_pos c, if_pos (h k c)]; omega
      · rw [if_neg c]; split <;> omega
theorem or_grow {m s : Nat} {w : Nat} (hm : m ||| s ≠ m) (hs : m ||| s < 2 ^ w) : pop m w < pop (m ||| s) w := by
  have h : ∃ j, (m ||| s).testBit j = true ∧ ¬ m.testBit j = true := by
    refine Classical.byContradiction fun z => hm ?_
    apply Nat.eq_of_testBit_eq
    intro i
    have z2 : ¬ ((m ||| s).testBit i = true ∧ ¬ m.testBit i = true) := fun q => z ⟨i, q⟩
    have z3 : (m ||| s).testBit i = (m.testBit i || s.testBit i) := Nat.testBit_or _ _ _
    revert z2
    rw [z3]
    cases m.testBit i <;> cases s.testBit i <;> simp
  obtain ⟨j, h1, h2⟩ := h
  have hj : j < w := by
    refine Classical.byContradiction fun z => ?_
    have h3 : (m ||| s).testBit j = false := Nat.testBit_lt_two_pow (Nat.lt_of_lt_of_le hs (Nat.pow_le_pow_right (by decide) (by omega)))
    rw [h3] at h1; cases h1
  exact pop_lt (fun i q => by rw [Nat.testBit_or, q]; rfl) h1 h2 w hj
/-- so many times: what steps lead to is added -/
def itS (se : Int → Int) (al : Int → Nat) (n : Int) : Nat → Nat → Nat
  | 0, m => m
  | k + 1, m => itS se al n k (m ||| stS se al m n.toNat)
theorem itS_s (se : Int → Int) (al : Int → Nat) (n : Int) : ∀ (k m : Nat), itS se al n (k + 1) m = itS se al n k m ||| stS se al (itS se al n k m) n.toNat
  | 0, m => rfl
  | k + 1, m => itS_s se al n k (m ||| stS se al m n.toNat)
theorem itS_fix {se : Int → Int} {al : Int → Nat} {n : Int} {m : Nat} (h : m ||| stS se al m n.toNat = m) : ∀ k, itS se al n k m = m
  | 0 => rfl
  | k + 1 => by
    show itS se al n k (m ||| stS se al m n.toNat) = m
    rw [h]; exact itS_fix h k
theorem itS_add (se : Int → Int) (al : Int → Nat) (n : Int) : ∀ (j k m : Nat), itS se al n (j + k) m = itS se al n k (itS se al n j m)
  | 0, k, m => by rw [Nat.zero_add]; rfl
  | j + 1, k, m => by
    rw [show j + 1 + k = (j + k) + 1 by omega]
    show itS se al n (j + k) (m ||| stS se al m n.toNat) = itS se al n k (itS se al n j (m ||| stS se al m n.toNat))
    exact itS_add se al n j k _
theorem itS_lt {se : Int → Int} {al : Int → Nat} {n : Int} (hg : GR se al n) (hn : 0 ≤ n) : ∀ (k : Nat) (m : Nat), m < 2 ^ n.toNat → itS se al n k m < 2 ^ n.toNat
  | 0, m, h => h
  | k + 1, m, h => itS_lt hg hn k _ (Nat.or_lt_two_pow h (stS_lt hg m n.toNat (by omega)))
/-- from mask to mask until the bit is there: how many times, from t on -/
def fsS (se : Int → Int) (al : Int → Nat) (n : Int) (b : Nat) : Nat → Nat → Int → Int
  | 0, _, _ => -1
  | k + 1, m, t => if m.testBit b = true then t else fsS se al n b k (m ||| stS se al m n.toNat) (t + 1)
theorem fsS_fix {se : Int → Int} {al : Int → Nat} {n : Int} {b m : Nat} (h : m ||| stS se al m n.toNat = m) (hb : ¬ m.testBit b = true) : ∀ (k : Nat) (t : Int), fsS se al n b k m t = -1
  | 0, _ => rfl
  | k + 1, t => by
    show (if m.testBit b = true then t else fsS se al n b k (m ||| stS se al m n.toNat) (t + 1)) = -1
    rw [if_neg hb, h]; exact fsS_fix h hb k (t + 1)
theorem fsS_y {se : Int → Int} {al : Int → Nat} {n : Int} {b m : Nat} {t z : Int} (hz : 0 < z) (hb : m.testBit b = true) : fsS se al n b z.toNat m t = t := by
  rw [show z.toNat = (z - 1).toNat + 1 by omega]
  show (if m.testBit b = true then t else _) = t
  rw [if_pos hb]
theorem fsS_n {se : Int → Int} {al : Int → Nat} {n : Int} {b m : Nat} {t z : Int} (hz : 0 < z) (hb : ¬ m.testBit b = true) : fsS se al n b z.toNat m t = fsS se al n b (z - 1).toNat (m ||| stS se al m n.toNat) (t + 1) := by
  rw [show z.toNat = (z - 1).toNat + 1 by omega]
  show (if m.testBit b = true then t else _) = _
  rw [if_neg hb]
def rS (se : Int → Int) (al : Int → Nat) (n : Int) : Nat → Nat
  | 0 => 0
  | k + 1 => rS se al n k ||| stS se al (2 ^ k) n.toNat
theorem rS_s (se : Int → Int) (al : Int → Nat) (n : Int) {z : Int} (h : 0 ≤ z) : rS se al n (z + 1).toNat = rS se al n z.toNat ||| stS se al (2 ^ z.toNat) n.toNat := by
  rw [show (z + 1).toNat = z.toNat + 1 by omega]; rfl
theorem rS_lt {se : Int → Int} {al : Int → Nat} {n : Int} (hg : GR se al n) (hn : 0 ≤ n) : ∀ k : Nat, rS se al n k < 2 ^ n.toNat
  | 0 => Nat.two_pow_pos _
  | k + 1 => Nat.or_lt_two_pow (rS_lt hg hn k) (stS_lt hg _ n.toNat (by omega))
/-! THE NUMBER OF BITS, as java.lang.Integer counts them -/
theorem and_sp (a b c d : Nat) (hb : b < 256) (hd : d < 256) : (256 * a + b) &&& (256 * c + d) = 256 * (a &&& c) + (b &&& d) := by
  have hb8 : b < 2 ^ 8 := hb
  have hd8 : d < 2 ^ 8 := hd
  have hbd : b &&& d < 2 ^ 8 := Nat.lt_of_le_of_lt Nat.and_le_left hb8
  rw [show (256 : Nat) = 2 ^ 8 from rfl]
  apply Nat.eq_of_testBit_eq
  intro i
  rw [Nat.testBit_and, Nat.testBit_two_pow_mul_add _ hb8, Nat.testBit_two_pow_mul_add _ hd8, Nat.testBit_two_pow_mul_add _ hbd]
  split
  · rw [Nat.testBit_and]
  · rw [Nat.testBit_and]
def b1 (x : Nat) : Nat := x - (x / 2 &&& 85)
def b2 (x : Nat) : Nat := (x &&& 51) + (x / 4 &&& 51)
def b3 (x : Nat) : Nat := (x + x / 16) &&& 15
theorem b1_lt : ∀ x : Nat, x < 256 → b1 x < 256 := by decide +kernel
theorem b2_lt : ∀ x : Nat, x < 256 → b2 (b1 x) < 69 ∧ b2 (b1 x) % 16 ≤ 4 := by decide +kernel
theorem b3_pop : ∀ x : Nat, x < 256 → b3 (b2 (b1 x)) = pop x 8 := by decide +kernel
theorem s1_sp (a b : Nat) (M : Nat) (hb : b < 256) : (256 * a + b) - ((256 * a + b) / 2 &&& (256 * M + 85)) = 256 * (a - (a / 2 &&& M)) + b1 b := by
  have e : (256 * a + b) / 2 = 256 * (a / 2) + (a % 2 * 128 + b / 2) := by omega
  have h1 : a % 2 * 128 + b / 2 < 256 := by omega
  rw [e, and_sp _ _ _ _ h1 (by decide)]
  have h2 : ∀ y : Nat, y < 2 → ∀ z : Nat, z < 128 → (y * 128 + z &&& 85) = (z &&& 85) := by decide +kernel
  rw [h2 (a % 2) (by omega) (b / 2) (by omega)]
  have h3 : a / 2 &&& M ≤ a := Nat.le_trans Nat.and_le_left (by omega)
  have h4 : b / 2 &&& 85 ≤ b := Nat.le_trans Nat.and_le_left (by omega)
  unfold b1
  omega
theorem s2_sp (a b : Nat) (M : Nat) (hb : b < 256) : ((256 * a + b) &&& (256 * M + 51)) + ((256 * a + b) / 4 &&& (256 * M + 51)) = 256 * ((a &&& M) + (a / 4 &&& M)) + b2 b := by
  have e : (256 * a + b) / 4 = 256 * (a / 4) + (a % 4 * 64 + b / 4) := by omega
  have h1 : a % 4 * 64 + b / 4 < 256 := by omega
  rw [e, and_sp _ _ _ _ h1 (by decide), and_sp _ _ _ _ hb (by decide)]
  have h2 : ∀ y : Nat, y < 4 → ∀ z : Nat, z < 64 → (y * 64 + z &&& 51) = (z &&& 51) := by decide +kernel
  rw [h2 (a % 4) (by omega) (b / 4) (by omega)]
  unfold b2
  omega
theorem s3_sp (a b : Nat) (M : Nat) (hb : b < 69) (ha : a % 16 ≤ 4) : ((256 * a + b) + (256 * a + b) / 16) &&& (256 * M + 15) = 256 * ((a + a / 16) &&& M) + b3 b := by
  have e : (256 * a + b) + (256 * a + b) / 16 = 256 * (a + a / 16) + (a % 16 * 16 + (b + b / 16)) := by omega
  have h1 : a % 16 * 16 + (b + b / 16) < 256 := by omega
  have h2 : ∀ y : Nat, y < 5 → ∀ z : Nat, z < 69 → (y * 16 + (z + z / 16)) &&& 15 = (z + z / 16) &&& 15 := by decide +kernel
  rw [e, and_sp _ _ _ _ h1 (by decide), h2 (a % 16) (by omega) b hb]
  rfl
theorem pop_sp (a b : Nat) (hb : b < 256) : ∀ k, pop (256 * a + b) (8 + k) = pop b 8 + pop a k
  | 0 => by
    have hb8 : b < 2 ^ 8 := hb
    have h : ∀ j, j ≤ 8 → pop (256 * a + b) j = pop b j := by
      intro j
      induction j with
      | zero => intro _; rfl
      | succ j ih =>
        intro hj
        show pop (256 * a + b) j + (if (256 * a + b).testBit j = true then 1 else 0) = pop b j + (if b.testBit j = true then 1 else 0)
        rw [ih (by omega), show (256 : Nat) = 2 ^ 8 from rfl, Nat.testBit_two_pow_mul_add _ hb8, if_pos (show j < 8 by omega)]
    exact h 8 (Nat.le_refl 8)
  | k + 1 => by
    have hb8 : b < 2 ^ 8 := hb
    have ih := pop_sp a b hb k
    show pop (256 * a + b) (8 + k) + (if (256 * a + b).testBit (8 + k) = true then 1 else 0) = pop b 8 + (pop a k + (if a.testBit k = true then 1 else 0))
    rw [ih, show (256 : Nat) = 2 ^ 8 from rfl, Nat.testBit_two_pow_mul_add _ hb8, if_neg (show ¬ 8 + k < 8 by omega), show 8 + k - 8 = k by omega]
    omega
theorem swar (m : Nat) (hm : m < 16777216) (x1 x2 x3 x4 x5 : Nat) (h1 : x1 = m - (m / 2 &&& 1431655765)) (h2 : x2 = (x1 &&& 858993459) + (x1 / 4 &&& 858993459)) (h3 : x3 = (x2 + x2 / 16) &&& 252645135) (h4 : x4 = x3 + x3 / 256) (h5 : x5 = x4 + x4 / 65536) : x5 &&& 63 = pop m 24 ∧ x1 < 16777216 ∧ x2 < 16777216 ∧ x3 < 16777216 ∧ x4 < 33554432 ∧ x5 < 33554432 := by
  obtain ⟨c0, c1, c2, hc0, hc1, hc2, rfl⟩ : ∃ c0 c1 c2, c0 < 256 ∧ c1 < 256 ∧ c2 < 256 ∧ m = 256 * (256 * (256 * 0 + c2) + c1) + c0 := ⟨m % 256, m / 256 % 256, m / 65536, by omega, by omega, by omega, by omega⟩
  have e1 : x1 = 256 * (256 * (256 * 0 + b1 c2) + b1 c1) + b1 c0 := by
    rw [h1, show (1431655765 : Nat) = 256 * (256 * (256 * 85 + 85) + 85) + 85 from rfl, s1_sp _ _ _ hc0, s1_sp _ _ _ hc1, s1_sp _ _ _ hc2]
    simp
  have e2 : x2 = 256 * (256 * (256 * 0 + b2 (b1 c2)) + b2 (b1 c1)) + b2 (b1 c0) := by
    rw [h2, e1, show (858993459 : Nat) = 256 * (256 * (256 * 51 + 51) + 51) + 51 from rfl, s2_sp _ _ _ (b1_lt c0 hc0), s2_sp _ _ _ (b1_lt c1 hc1), s2_sp _ _ _ (b1_lt c2 hc2)]
    simp
  have k0 := b2_lt c0 hc0
  have k1 := b2_lt c1 hc1
  have k2 := b2_lt c2 hc2
  have e3 : x3 = 256 * (256 * (256 * 0 + b3 (b2 (b1 c2))) + b3 (b2 (b1 c1))) + b3 (b2 (b1 c0)) := by
    rw [h3, e2, show (252645135 : Nat) = 256 * (256 * (256 * 15 + 15) + 15) + 15 from rfl, s3_sp _ _ _ k0.1 (by omega), s3_sp _ _ _ k1.1 (by omega), s3_sp _ _ _ k2.1 (by omega)]
    simp
  rw [b3_pop c0 hc0, b3_pop c1 hc1, b3_pop c2 hc2] at e3
  have q0 := pop_le c0 8
  have q1 := pop_le c1 8
  have q2 := pop_le c2 8
  have f0 := b1_lt c0 hc0
  have f1 := b1_lt c1 hc1
  have f2 := b1_lt c2 hc2
  have e6 : x5 &&& 63 = x5 % 64 := Nat.and_two_pow_sub_one_eq_mod x5 6
  have e7 : pop (256 * (256 * (256 * 0 + c2) + c1) + c0) 24 = pop c0 8 + (pop c1 8 + pop c2 8) := by
    rw [show 24 = 8 + (8 + (8 + 0)) from rfl, pop_sp _ _ hc0, pop_sp _ _ hc1, pop_sp _ _ hc2]
    rfl
  rw [e6, e7]
  generalize pop c0 8 = P0 at e3 q0 ⊢
  generalize pop c1 8 = P1 at e3 q1 ⊢
  generalize pop c2 8 = P2 at e3 q2 ⊢
  have e4 : x4 = 65536 * P2 + 256 * (P1 + P2) + (P0 + P1) := by
    clear h1 h2 h3 e1 e2 e6 e7 h5
    rw [h4]; omega
  have e5 : x5 = 65536 * P2 + 256 * (P1 + P2) + (P0 + P1 + P2) := by
    clear h1 h2 h3 e1 e2 e3 e6 e7 h4
    rw [h5, e4]; omega
  clear h1 h2 h3 h4 h5 e6 e7
  refine ⟨?_, ?_, ?_, ?_, ?_, ?_⟩
  · rw [e5]; omega
  · rw [e1]; omega
  · rw [e2]; omega
  · rw [e3]; omega
  · rw [e4]; omega
  · rw [e5]; omega
def bcX (x : Int32) : Int32 :=
  let us (a : Int32) (b : Int32) : Int32 := (a.toUInt32 >>> (b.toUInt32 &&& Int32.toUInt32 31)).toInt32
  let x1 := x - (us x (iI 1) &&& 1431655765)
  let x2 := (x1 &&& 858993459) + (us x1 (iI 2) &&& 858993459)
  let x3 := (x2 + us x2 (iI 4)) &&& 252645135
  let x4 := x3 + us x3 (iI 8)
  let x5 := x4 + us x4 (iI 16)
  x5 &&& iI 63
theorem bcX_pop {m : Nat} (hm : m < 2 ^ 24) : bcX (iI (m : Int)) = iI ((pop m 24 : Nat) : Int) := by
  have hm : m < 16777216 := hm
  obtain ⟨r, l1, l2, l3, l4, l5⟩ := swar m hm _ _ _ _ _ rfl rfl rfl rfl rfl
  generalize e1 : m - (m / 2 &&& 1431655765) = x1 at r l1 l2 l3 l4 l5
  generalize e2 : (x1 &&& 858993459) + (x1 / 4 &&& 858993459) = x2 at r l2 l3 l4 l5
  generalize e3 : (x2 + x2 / 16) &&& 252645135 = x3 at r l3 l4 l5
  generalize e4 : x3 + x3 / 256 = x4 at r l4 l5
  generalize e5 : x4 + x4 / 65536 = x5 at r l5
  have us : ∀ (a k : Nat), a < 2 ^ 31 → (((iI (k : Int)).toUInt32 &&& Int32.toUInt32 31).toBitVec % 32).toNat = k → ((iI (a : Int)).toUInt32 >>> ((iI (k : Int)).toUInt32 &&& Int32.toUInt32 31)).toInt32 = iI ((a / 2 ^ k : Nat) : Int) := by
    intro a k ha hk
    rw [iI_nat, iI_nat]
    exact pk_ushrN (Nat.lt_of_lt_of_le ha (by decide)) _ k hk
  have u1 := us m 1 (by have : (2 : Nat) ^ 31 = 2147483648 := rfl; omega) (by decide)
  have u2 := us x1 2 (by have : (2 : Nat) ^ 31 = 2147483648 := rfl; omega) (by decide)
  have u3 := us x2 4 (by have : (2 : Nat) ^ 31 = 2147483648 := rfl; omega) (by decide)
  have u4 := us x3 8 (by have : (2 : Nat) ^ 31 = 2147483648 := rfl; omega) (by decide)
  have u5 := us x4 16 (by have : (2 : Nat) ^ 31 = 2147483648 := rfl; omega) (by decide)
  have a1 : ((m - (m / 2 &&& 1431655765) : Nat) : Int) = (m : Int) - ((m / 2 &&& 1431655765 : Nat) : Int) := by
    have h3 : m / 2 &&& 1431655765 ≤ m := Nat.le_trans Nat.and_le_left (by omega)
    omega
  have v1 : iI (m : Int) - (((iI (m : Int)).toUInt32 >>> ((iI 1).toUInt32 &&& Int32.toUInt32 31)).toInt32 &&& 1431655765) = iI (x1 : Int) := by
    rw [show (iI 1) = iI ((1 : Nat) : Int) from rfl, u1, show (1431655765 : Int32) = iI ((1431655765 : Nat) : Int) from rfl, iI_and, iI_sub, ← e1, a1]
  have v2 : (iI (x1 : Int) &&& 858993459) + (((iI (x1 : Int)).toUInt32 >>> ((iI 2).toUInt32 &&& Int32.toUInt32 31)).toInt32 &&& 858993459) = iI (x2 : Int) := by
    rw [show (iI 2) = iI ((2 : Nat) : Int) from rfl, u2, show (858993459 : Int32) = iI ((858993459 : Nat) : Int) from rfl, iI_and, iI_and, iI_add, ← e2]
    rfl
  have v3 : (iI (x2 : Int) + ((iI (x2 : Int)).toUInt32 >>> ((iI 4).toUInt32 &&& Int32.toUInt32 31)).toInt32) &&& 252645135 = iI (x3 : Int) := by
    rw [show (iI 4) = iI ((4 : Nat) : Int) from rfl, u3, show (252645135 : Int32) = iI ((252645135 : Nat) : Int) from rfl, iI_add, ← e3, ← iI_and]
    rfl
  have v4 : iI (x3 : Int) + ((iI (x3 : Int)).toUInt32 >>> ((iI 8).toUInt32 &&& Int32.toUInt32 31)).toInt32 = iI (x4 : Int) := by
    rw [show (iI 8) = iI ((8 : Nat) : Int) from rfl, u4, iI_add, ← e4]
    rfl
  have v5 : iI (x4 : Int) + ((iI (x4 : Int)).toUInt32 >>> ((iI 16).toUInt32 &&& Int32.toUInt32 31)).toInt32 = iI (x5 : Int) := by
    rw [show (iI 16) = iI ((16 : Nat) : Int) from rfl, u5, iI_add, ← e5]
    rfl
  unfold bcX
  dsimp only
  rw [v1, v2, v3, v4, v5, show (iI 63) = iI ((63 : Nat) : Int) from rfl, iI_and, r]
