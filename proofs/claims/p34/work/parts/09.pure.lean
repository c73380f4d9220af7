/-! SUMS -/
theorem pic_bd {g o : SpT} (hg : WB g) (ho : WB o) : ∀ (n : Nat) (a b s : Int), 0 ≤ a → 0 ≤ b → s ≤ pic g o n a b s ∧ pic g o n a b s ≤ s + 300000 * n
  | 0, a, b, s, _, _ => by show s ≤ s ∧ s ≤ s + 300000 * ((0 : Nat) : Int); omega
  | n + 1, a, b, s, ha, hb => by
    show s ≤ (if a < g.1 ∧ b < o.1 then _ else s) ∧ (if a < g.1 ∧ b < o.1 then _ else s) ≤ s + 300000 * ((n + 1 : Nat) : Int)
    by_cases c : a < g.1 ∧ b < o.1
    · rw [if_pos c]
      have h1 := hg.2.2 a ha c.1
      have h2 := ho.2.2 b hb c.2
      unfold bnd at h1 h2
      by_cases c2 : g.2.2 a ≤ o.2.2 b
      · rw [if_pos c2]
        have ih := pic_bd hg ho n (a + 1) b (s + max 0 (min (g.2.2 a) (o.2.2 b) - max (g.2.1 a) (o.2.1 b) + 1)) (by omega) hb
        omega
      · rw [if_neg c2]
        have ih := pic_bd hg ho n a (b + 1) (s + max 0 (min (g.2.2 a) (o.2.2 b) - max (g.2.1 a) (o.2.1 b) + 1)) ha (by omega)
        omega
    · rw [if_neg c]
      omega
theorem smI_add (f g : Int → Int) : ∀ n : Nat, smI (fun k => f k + g k) n = smI f n + smI g n
  | 0 => rfl
  | n + 1 => by
    show smI (fun k => f k + g k) n + (f n + g n) = (smI f n + f n) + (smI g n + g n)
    rw [smI_add f g n]; omega
theorem smI_sub (f g : Int → Int) : ∀ n : Nat, smI (fun k => f k - g k) n = smI f n - smI g n
  | 0 => rfl
  | n + 1 => by
    show smI (fun k => f k - g k) n + (f n - g n) = (smI f n + f n) - (smI g n + g n)
    rw [smI_sub f g n]; omega
theorem smI_z : ∀ n : Nat, smI (fun _ => 0) n = 0
  | 0 => rfl
  | n + 1 => by show smI (fun _ => 0) n + 0 = 0; rw [smI_z n]; rfl
theorem smI_swap (f : Int → Int → Int) (c : Nat) : ∀ n : Nat, smI (fun r => smI (fun j => f r j) c) n = smI (fun j => smI (fun r => f r j) n) c
  | 0 => (smI_z c).symm
  | n + 1 => by
    show smI (fun r => smI (fun j => f r j) c) n + smI (fun j => f n j) c = smI (fun j => smI (fun r => f r j) n + f n j) c
    rw [smI_swap f c n, ← smI_add]
theorem smI_pt {x : Int} (hx : 0 ≤ x) : ∀ n : Nat, smI (fun r => pI (x = r)) n = pI (x < n)
  | 0 => by
    show (0 : Int) = _
    rw [pI_f (by omega)]
  | n + 1 => by
    show smI (fun r => pI (x = r)) n + pI (x = (n : Int)) = _
    rw [smI_pt hx n]
    rcases Int.lt_trichotomy x n with c | c | c
    · rw [pI_t c, pI_f (by omega), pI_t (by omega)]; rfl
    · rw [pI_f (by omega), pI_t c, pI_t (by omega)]; rfl
    · rw [pI_f (by omega), pI_f (by omega), pI_f (by omega)]; rfl
/-- of spans in their order, one at most holds a page -/
theorem vl_one {g : SpT} {pg : Int} (hv : VL g pg) (q : Int) : ∀ n : Nat, (n : Int) ≤ g.1 → smI (fun j => pI (g.2.1 j ≤ q ∧ q ≤ g.2.2 j)) n = pI (∃ j : Int, 0 ≤ j ∧ j < n ∧ g.2.1 j ≤ q ∧ q ≤ g.2.2 j)
  | 0, _ => by
    show (0 : Int) = _
    rw [pI_f (fun ⟨j, h0, h1, _⟩ => by omega)]
  | n + 1, h => by
    show smI (fun j => pI (g.2.1 j ≤ q ∧ q ≤ g.2.2 j)) n + pI (g.2.1 (n : Int) ≤ q ∧ q ≤ g.2.2 (n : Int)) = _
    rw [vl_one hv q n (by omega)]
    by_cases c : g.2.1 (n : Int) ≤ q ∧ q ≤ g.2.2 (n : Int)
    · rw [pI_t c, pI_f (fun ⟨j, h0, h1, h2, h3⟩ => by have z := vl_lt hv h0 h1 (by omega); omega), pI_t ⟨(n : Int), by omega, by omega, c.1, c.2⟩]
      rfl
    · rw [pI_f c]
      by_cases c2 : ∃ j : Int, 0 ≤ j ∧ j < n ∧ g.2.1 j ≤ q ∧ q ≤ g.2.2 j
      · obtain ⟨j, h0, h1, h2, h3⟩ := id c2
        rw [pI_t c2, pI_t ⟨j, h0, by omega, h2, h3⟩]; rfl
      · rw [pI_f c2, pI_f (fun ⟨j, h0, h1, h2, h3⟩ => by
          by_cases e : j = n
          · subst e; exact c ⟨h2, h3⟩
          · exact c2 ⟨j, h0, by omega, h2, h3⟩)]; rfl
theorem vl_cov {g : SpT} {pg : Int} (hv : VL g pg) (q : Int) : smI (fun j => pI (g.2.1 j ≤ q ∧ q ≤ g.2.2 j)) g.1.toNat = pI (cov g q) := by
  rw [vl_one hv q g.1.toNat (by have := hv.1; omega)]
  have e : (g.1.toNat : Int) = g.1 := by have := hv.1; omega
  rw [e]
  rfl
/-- what starts and has ended, summed up to a page -/
theorem dd_sum {g : SpT} {pg : Int} (hv : VL g pg) {q : Int} (hq : 0 ≤ q) : smI (fun r => smI (fun j => pI (g.2.1 j = r) - pI (g.2.2 j + 1 = r)) g.1.toNat) (q + 1).toNat = pI (cov g q) := by
  rw [smI_swap (fun r j => pI (g.2.1 j = r) - pI (g.2.2 j + 1 = r)), ← vl_cov hv q]
  refine smI_c (fun j h0 h1 => ?_)
  have hj := hv.2.2.1 j h0 (by have := hv.1; omega)
  show smI (fun r => pI (g.2.1 j = r) - pI (g.2.2 j + 1 = r)) (q + 1).toNat = _
  rw [smI_sub, smI_pt (by omega), smI_pt (by omega)]
  have e : ((q + 1).toNat : Int) = q + 1 := by omega
  rw [e]
  by_cases c1 : g.2.1 j ≤ q
  · by_cases c2 : q ≤ g.2.2 j
    · rw [pI_t (by omega), pI_f (by omega), pI_t ⟨c1, c2⟩]; rfl
    · rw [pI_t (by omega), pI_t (by omega), pI_f (by omega)]; rfl
  · rw [pI_f (by omega), pI_f (by omega), pI_f (by omega)]; rfl
/-- all spans in their order, of every heading -/
def SPV (sp : Int → SpT) (n pg : Int) : Prop := ∀ i : Int, 0 ≤ i → i < n → VL (sp i) pg ∧ (sp i).1 ≤ 8
theorem ta_sum {sp : Int → SpT} {n pg : Int} (hs : SPV sp n pg) (hn : 0 ≤ n) {q : Int} (hq : 0 ≤ q) : smI (fun r => smI (fun i => smI (fun j => pI ((sp i).2.1 j = r) - pI ((sp i).2.2 j + 1 = r)) (sp i).1.toNat) n.toNat) (q + 1).toNat = smI (fun i => pI (cov (sp i) q)) n.toNat := by
  rw [smI_swap (fun r i => smI (fun j => pI ((sp i).2.1 j = r) - pI ((sp i).2.2 j + 1 = r)) (sp i).1.toNat)]
  refine smI_c (fun i h0 h1 => ?_)
  exact dd_sum (hs i h0 (by omega)).1 hq
theorem upI_at {α : Type} (f : Int → α) (k : Int) (v : α) (j : Int) : upI f k v j = if j = k then v else f j := rfl
theorem bit_ne {m k : Nat} : ((m &&& 2 ^ k : Nat) : Int) ≠ 0 ↔ m.testBit k = true := by
  have h : m &&& 2 ^ k ≠ 0 ↔ m.testBit k = true := by
    constructor
    · intro h
      refine Classical.byContradiction fun z => h ?_
      apply Nat.eq_of_testBit_eq
      intro i
      rw [Nat.testBit_and, Nat.testBit_two_pow, Nat.zero_testBit]
      by_cases e : k = i
      · subst e
        rw [Bool.eq_false_iff.mpr z]; rfl
      · rw [decide_eq_false e, Bool.and_false]
    · intro h z
      have h2 : (m &&& 2 ^ k).testBit k = false := by rw [z]; exact Nat.zero_testBit k
      rw [Nat.testBit_and, Nat.testBit_two_pow, h] at h2
      simp at h2
  constructor
  · intro z; exact h.mp (fun y => z (by rw [y]; rfl))
  · intro z y; exact h.mpr z (Int.ofNat.inj y)
theorem pop_lw {m : Nat} : ∀ {w k : Nat}, m < 2 ^ w → pop m k ≤ w
  | w, 0, _ => Nat.zero_le w
  | w, k + 1, h => by
    show pop m k + (if m.testBit k = true then 1 else 0) ≤ w
    by_cases c : k < w
    · have := pop_le m k
      split <;> omega
    · have h2 : m.testBit k = false := Nat.testBit_lt_two_pow (Nat.lt_of_lt_of_le h (Nat.pow_le_pow_right (by decide) (by omega)))
      have ih := pop_lw (k := k) h
      rw [h2]; simp; exact ih
theorem pop_pos {m : Nat} (h0 : m ≠ 0) (h : m < 2 ^ 24) : 1 ≤ pop m 24 := by
  have z := or_grow (w := 24) (m := 0) (s := m) (by rw [Nat.zero_or]; exact h0) (by rw [Nat.zero_or]; exact h)
  rw [Nat.zero_or] at z
  omega
theorem stS_0 (se : Int → Int) (al : Int → Nat) : ∀ k, stS se al 0 k = 0
  | 0 => rfl
  | k + 1 => by
    show (if (0 : Nat).testBit k = true then _ else stS se al 0 k) = 0
    rw [if_neg (by simp)]; exact stS_0 se al k
/-- the headings on a page -/
noncomputable abbrev CHN (sp : Int → SpT) (n q : Int) : Int := smI (fun i => pI (cov (sp i) q)) n.toNat
noncomputable abbrev DDg (g : SpT) (k : Int) (z : Int) : Int := smI (fun j => pI (g.2.1 j = k) - pI (g.2.2 j + 1 = k)) z.toNat
noncomputable abbrev DDn (sp : Int → SpT) (k : Int) (n : Int) : Int := smI (fun i => DDg (sp i) k (sp i).1) n.toNat
theorem tl_step (tt : Int → Int) (a b q : Int) : upI (upI tt a (tt a + 1)) b (upI tt a (tt a + 1) b + -1) q = tt q + (pI (a = q) - pI (b = q)) := by
  simp only [upI_at]
  by_cases c1 : q = b
  · subst c1
    rw [if_pos rfl, pI_t (P := q = q) rfl]
    by_cases c2 : q = a
    · subst c2; rw [if_pos rfl, pI_t (P := q = q) rfl]; omega
    · rw [if_neg c2, pI_f (P := a = q) (fun z => c2 z.symm)]; omega
  · rw [if_neg c1, pI_f (P := b = q) (fun z => c1 z.symm)]
    by_cases c2 : q = a
    · subst c2; rw [if_pos rfl, pI_t (P := q = q) rfl]; omega
    · rw [if_neg c2, pI_f (P := a = q) (fun z => c2 z.symm)]; omega
theorem ta_n {sp : Int → SpT} {n pg : Int} (hs : SPV sp n pg) (hn : 0 ≤ n) {q : Int} (hq : 0 ≤ q) : smI (fun r => DDn sp r n) (q + 1).toNat = CHN sp n q := ta_sum hs hn hq
theorem ta_0 {sp : Int → SpT} {n pg : Int} (hs : SPV sp n pg) (hn : 0 ≤ n) : DDn sp 0 n = CHN sp n 0 := by
  have h := ta_n hs hn (q := 0) (by decide)
  rw [smI_s (fun r => DDn sp r n) (z := 0) (by decide)] at h
  rw [← h]
  exact (Int.zero_add _).symm
theorem ta_1 {sp : Int → SpT} {n pg : Int} (hs : SPV sp n pg) (hn : 0 ≤ n) {q : Int} (hq : 1 ≤ q) : DDn sp q n + CHN sp n (q - 1) = CHN sp n q := by
  have h := ta_n hs hn (q := q) (by omega)
  rw [smI_s (fun r => DDn sp r n) (z := q) (by omega), show q.toNat = (q - 1 + 1).toNat by omega, ta_n hs hn (q := q - 1) (by omega)] at h
  omega
theorem CHN_b (sp : Int → SpT) {n : Int} (q : Int) (hn : 0 ≤ n) : 0 ≤ CHN sp n q ∧ CHN sp n q ≤ n := smI_01 (f := fun i => pI (cov (sp i) q)) hn (fun _ _ _ => pI_b _)
/-- all bits below n -/
theorem all_lt {n : Int} (hn : 0 ≤ n) : 2 ^ n.toNat - 1 < 2 ^ n.toNat := Nat.sub_lt (Nat.pow_pos (by decide)) (by decide)
theorem iI_all {n : Int} : iI (((2 ^ n.toNat : Nat) : Int) - 1) = iI ((2 ^ n.toNat - 1 : Nat) : Int) := by
  have h : 0 < 2 ^ n.toNat := Nat.pow_pos (by decide)
  generalize 2 ^ n.toNat = k at h ⊢
  rw [show (((k : Nat) : Int) - 1) = ((k - 1 : Nat) : Int) by omega]
/-- the world, whatever the tally -/
def CT (E : EN) (ad : Int → Nat) (sp : Int → SpT) (se : Int → Int) (al : Int → Nat) (n pg : Int) (H : Heap) : Prop := ∃ ta, CW E ad sp se al ta n pg H
/-- the world, whatever the spans that are made anew and the tally -/
def CV (E : EN) (ad : Int → Nat) (sp : Int → SpT) (se : Int → Int) (al : Int → Nat) (n pg : Int) (H : Heap) : Prop := ∃ (hs : Int → SpT) (ta : Int → Int), (∀ i : Int, 0 ≤ i → i < n → hs i = sp i) ∧ CW E ad hs se al ta n pg H
section GEX
variable {p : Program} {l : Launch} {e : Env} {R : Room} {s : State} {m : MethodId} {args : Array Value} {below : List Frame} {meth : Method} {c : Code} {nL : Nat} {A : Nat → Prop} {cells slots : Nat} {Q : State → Prop}
variable {pc : Nat} {lv : List (Nat × Value)} {st : List Value}
theorem g_exP {α : Type} {P : α → Prop} {W : α → Heap → Prop} (h : ∀ x, P x → G p l e R s m args below meth c nL A cells slots Q pc lv st (W x)) : G p l e R s m args below meth c nL A cells slots Q pc lv st (fun H => ∃ x, P x ∧ W x H) :=
  fun H locs ls hl ⟨x, hx, hw⟩ hS => h x hx H locs ls hl hw hS
theorem g_exU {α : Type} {W : α → Heap → Prop} (h : ∀ x, G p l e R s m args below meth c nL A cells slots Q pc lv st (W x)) : G p l e R s m args below meth c nL A cells slots Q pc lv st (fun H => ∃ x, W x H) :=
  fun H locs ls hl ⟨x, hw⟩ hS => h x H locs ls hl hw hS
theorem g_preP {P : Prop} {W : Heap → Prop} (h : P → G p l e R s m args below meth c nL A cells slots Q pc lv st W) : G p l e R s m args below meth c nL A cells slots Q pc lv st (fun H => P ∧ W H) :=
  fun H locs ls hl ⟨x, hw⟩ hS => h x H locs ls hl hw hS
end GEX
