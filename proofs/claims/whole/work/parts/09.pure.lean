/-! SUMS -/
theorem pic_bd {g o : SpT} (hg : WB g) (ho : WB o) : ∀ (n : Nat) (a b s : Int), 0 ≤ a → 0 ≤ b → s ≤ pic g o n a b s ∧ pic g o n a b s ≤ s + 300000 * n
  | 0, a, b, s, _, _ => by show s ≤ s ∧ s ≤ s + 300000 * ((0 : Nat) : Int); omega
  | n + 1, a, b, s, ha, hb => by
    show s ≤ (if a < g.1 ∧ b < o.1 then _ else s) ∧ (if a < g.1 ∧ b < o.1 then _ else s) ≤ s + 300000 * ((n + 1 : Nat) : Int)
    by_cases c : a < g.1 ∧ b < o.1
    · rw [if_pos c]
      have h1 := hg.2.2 a ha c.1
      have h2 := ho.2.2 b hb c.2
      unfold bnd at h1 h2
      by_cases c2 : g.2.2 a ≤ o.2.2 b
      · rw [if_pos c2]
        have ih := pic_bd hg ho n (a + 1) b (s + max 0 (min (g.2.2 a) (o.2.2 b) - max (g.2.1 a) (o.2.1 b) + 1)) (by omega) hb
        omega
      · rw [if_neg c2]
        have ih := pic_bd hg ho n a (b + 1) (s + max 0 (min (g.2.2 a) (o.2.2 b) - max (g.2.1 a) (o.2.1 b) + 1)) ha (by omega)
        omega
    · rw [if_neg c]
      omega
theorem smI_add (f g : Int → Int) : ∀ n : Nat, smI (fun k => f k + g k) n = smI f n + smI g n
  | 0 => rfl
  | n + 1 => by
    show smI (fun k => f k + g k) n + (f n + g n) = (smI f n + f n) + (smI g n + g n)
    rw [smI_add f g n]; omega
theorem smI_sub (f g : Int → Int) : ∀ n : Nat, smI (fun k => f k - g k) n = smI f n - smI g n
  | 0 => rfl
  | n + 1 => by
    show smI (fun k => f k - g k) n + (f n - g n) = (smI f n + f n) - (smI g n + g n)
    rw [smI_sub f g n]; omega
theorem smI_z : ∀ n : Nat, smI (fun _ => 0) n = 0
  | 0 => rfl
  | n + 1 => by show smI (fun _ => 0) n + 0 = 0; rw [smI_z n]; rfl
theorem smI_swap (f : Int → Int → Int) (c : Nat) : ∀ n : Nat, smI (fun r => smI (fun j => f r j) c) n = smI (fun j => smI (fun r => f r j) n) c
  | 0 => (smI_z c).symm
  | n + 1 => by
    show smI (fun r => smI (fun j => f r j) c) n + smI (fun j => f n j) c = smI (fun j => smI (fun r => f r j) n + f n j) c
    rw [smI_swap f c n, ← smI_add]
theorem smI_pt {x : Int} (hx : 0 ≤ x) : ∀ n : Nat, smI (fun r => pI (x = r)) n = pI (x < n)
  | 0 => by
    show (0 : Int) = _
    rw [pI_f (by omega)]
  | n + 1 => by
    show smI (fun r => pI (x = r)) n + pI (x = (n : Int)) = _
    rw [smI_pt hx n]
    rcases Int.lt_trichotomy x n with c | c | c
    · rw [pI_t c, pI_f (by omega), pI_t (by omega)]; rfl
    · rw [pI_f (by omega), pI_t c, pI_t (by omega)]; rfl
    · rw [pI_f (by omega), pI_f (by omega), pI_f (by omega)]; rfl
/-- of spans in their order, one at most holds a page -/
theorem vl_one {g : SpT} {pg : Int} (hv : VL g pg) (q : Int) : ∀ n : Nat, (n : Int) ≤ g.1 → smI (fun j => pI (g.2.1 j ≤ q ∧ q ≤ g.2.2 j)) n = pI (∃ j : Int, 0 ≤ j ∧ j < n ∧ g.2.1 j ≤ q ∧ q ≤ g.2.2 j)
  | 0, _ => by
    show (0 : Int) = _
    rw [pI_f (fun ⟨j, h0, h1, _⟩ => by omega)]
  | n + 1, h => by
    show smI (fun j => pI (g.2.1 j ≤ q ∧ q ≤ g.2.2 j)) n + pI (g.2.1 (n : Int) ≤ q ∧ q ≤ g.2.2 (n : Int)) = _
    rw [vl_one hv q n (by omega)]
    by_cases c : g.2.1 (n : Int) ≤ q ∧ q ≤ g.2.2 (n : Int)
    · rw [pI_t c, pI_f (fun ⟨j, h0, h1, h2, h3⟩ => by have z := vl_lt hv h0 h1 (by omega); omega), pI_t ⟨(n : Int), by omega, by omega, c.1, c.2⟩]
      rfl
    · rw [pI_f c]
      by_cases c2 : ∃ j : Int, 0 ≤ j ∧ j < n ∧ g.2.1 j ≤ q ∧ q ≤ g.2.2 j
      · obtain ⟨j, h0, h1, h2, h3⟩ := id c2
        rw [pI_t c2, pI_t ⟨j, h0, by omega, h2, h3⟩]; rfl
      · rw [pI_f c2, pI_f (fun ⟨j, h0, h1, h2, h3⟩ => by
          by_cases e : j = n
          · subst e; exact c ⟨h2, h3⟩
          · exact c2 ⟨j, h0, by omega, h2, h3⟩)]; rfl
theorem vl_cov {g : SpT} {pg : Int} (hv : VL g pg) (q : Int) : smI (fun j => pI (g.2.1 j ≤ q ∧ q ≤ g.2.2 j)) g.1.toNat = pI (cov g q) := by
  rw [vl_one hv q g.1.toNat (by have := hv.1; omega)]
  have e : (g.1.toNat : Int) = g.1 := by have := hv.1; omega
  rw [e]
  rfl
/-- what starts and has ended, summed up to a page -/
theorem dd_sum {g : SpT} {pg : Int} (hv : VL g pg) {q : Int} (hq : 0 ≤ q) : smI (fun r => smI (fun j => pI (g.2.1 j = r) - pI (g.2.2 j + 1 = r)) g.1.toNat) (q + 1).toNat = pI (cov g q) := by
  rw [smI_swap (fun r j => pI (g.2.1 j = r) - pI (g.2.2 j + 1 = r)), ← vl_cov hv q]
  refine smI_c (fun j h0 h1 => ?_)
  have hj := hv.2.2.1 j h0 (by have := hv.1; omega)
  show smI (fun r => pI (g.2.1 j = r) - pI (g.2.2 j + 1 = r)) (q + 1).toNat = _
  rw [smI_sub, smI_pt (by omega), smI_pt (by omega)]
  have e : ((q + 1).toNat : Int) = q + 1 := by omega
  rw [e]
  by_cases c1 : g.2.1 j ≤ q
  · by_cases c2 : q ≤ g.2.2 j
    · rw [pI_t (by omega), pI_f (by omega), pI_t ⟨c1, c2⟩]; rfl
    · rw [pI_t (by omega), pI_t (by omega), pI_f (by omega)]; rfl
  · rw [pI_f (by omega), pI_f (by omega), pI_f (by omega)]; rfl
/-- all spans in their order, of every heading -/
def SPV (sp : Int → SpT) (n pg : Int) : Prop := ∀ i : Int, 0 ≤ i → i < n → VL (sp i) pg ∧ (sp i).1 ≤ 8
theorem ta_sum {sp : Int → SpT} {n pg : Int} (hs : SPV sp n pg) (hn : 0 ≤ n) {q : Int} (hq : 0 ≤ q) : smI (fun r => smI (fun i => smI (fun j => pI ((sp i).2.1 j = r) - pI ((sp i).2.2 j + 1 = r)) (sp i).1.toNat) n.toNat) (q + 1).toNat = smI (fun i => pI (cov (sp i) q)) n.toNat := by
  rw [smI_swap (fun r i => smI (fun j => pI ((sp i).2.1 j = r) - pI ((sp i).2.2 j + 1 = r)) (sp i).1.toNat)]
  refine smI_c (fun i h0 h1 => ?_)
  exact dd_sum (hs i h0 (by omega)).1 hq
theorem upI_at {α : Type} (f : Int → α) (k : Int) (v : α) (j : Int) : upI f k v j = if j = k then v else f j := rfl
theorem bit_ne {m k : Nat} : ((m &&& 2 ^ k : Nat) : Int) ≠ 0 ↔ m.testBit k = true := by
  have h : m &&& 2 ^ k ≠ 0 ↔ m.testBit k = true := by
    constructor
    · intro h
      refine Classical.byContradiction fun z => h ?_
      apply Nat.eq_of_testBit_eq
      intro i
      rw [Nat.testBit_and, Nat.testBit_two_pow, Nat.zero_testBit]
      by_cases e : k = i
      · subst e
        rw [Bool.eq_false_iff.mpr z]; rfl
      · rw [decide_eq_false e, Bool.and_false]
    · intro h z
      have h2 : (m &&& 2 ^ k).testBit k = false := by rw [z]; exact Nat.zero_testBit k
      rw [Nat.testBit_and, Nat.testBit_two_pow, h] at h2
      simp at h2
  constructor
  · intro z; exact h.mp (fun y => z (by rw [y]; rfl))
  · intro z y; exact h.mpr z (Int.ofNat.inj y)
theorem pop_lw {m : Nat} : ∀ {w k : Nat}, m < 2 ^ w → pop m k ≤ w
  | w, 0, _ => Nat.zero_le w
  | w, k + 1, h => by
    show pop m k + (if m.testBit k = true then 1 else 0) ≤ w
    by_cases c : k < w
    · have := pop_le m k
      split <;> omega
    · have h2 : m.testBit k = false := Nat.testBit_lt_two_pow (Nat.lt_of_lt_of_le h (Nat.pow_le_pow_right (by decide) (by omega)))
      have ih := pop_lw (k := k) h
      rw [h2]; simp; exact ih
theorem pop_pos {m : Nat} (h0 : m ≠ 0) (h : m < 2 ^ 24) : 1 ≤ pop m 24 := by
  have z := or_grow (w := 24) (m := 0) (s := m) (by rw [Nat.zero_or]; exact h0) (by rw [Nat.zero_or]; exact h)
  rw [Nat.zero_or] at z
  omega
theorem stS_0 (se : Int → Int) (al : Int → Nat) : ∀ k, stS se al 0 k = 0
  | 0 => rfl
  | k + 1 => by
    show (if (0 : Nat).testBit k = true then _ else stS se al 0 k) = 0
    rw [if_neg (by simp)]; exact stS_0 se al k
