/-! SPANS MADE BY HAND: cut, merged -/
theorem apn_ok {g : SpT} {f l pg : Int} (hv : VL g pg) (hf : 1 ≤ f ∧ f ≤ l ∧ l ≤ pg) (hla : 0 < g.1 → g.2.2 (g.1 - 1) + 2 ≤ f) (hr : g.1 < 16) : VL (apn g f l) pg ∧ ∀ q, cov (apn g f l) q ↔ cov g q ∨ (f ≤ q ∧ q ≤ l) := by
  have h0 := hv.1
  refine ⟨⟨by show 0 ≤ g.1 + 1; omega, by show g.1 + 1 ≤ 16; omega, fun k k0 k1 => ?_, fun k k0 k1 => ?_⟩, fun q => ⟨fun ⟨k, k0, k1, k2, k3⟩ => ?_, fun z => ?_⟩⟩
  · have k1 : k < g.1 + 1 := k1
    show 1 ≤ upI g.2.1 g.1 f k ∧ upI g.2.1 g.1 f k ≤ upI g.2.2 g.1 l k ∧ upI g.2.2 g.1 l k ≤ pg
    by_cases e : k = g.1
    · subst e; rw [upI_s, upI_s]; exact hf
    · rw [upI_n _ _ e, upI_n _ _ e]; exact hv.2.2.1 k k0 (by omega)
  · have k1 : k + 1 < g.1 + 1 := k1
    show upI g.2.2 g.1 l k + 2 ≤ upI g.2.1 g.1 f (k + 1)
    by_cases e : k + 1 = g.1
    · rw [← e, upI_s, upI_n _ _ (by omega)]
      have w := hla (by omega)
      rw [show g.1 - 1 = k by omega] at w
      exact w
    · rw [upI_n _ _ e, upI_n _ _ (by omega)]; exact hv.2.2.2 k k0 (by omega)
  · have k1 : k < g.1 + 1 := k1
    have k2 : upI g.2.1 g.1 f k ≤ q := k2
    have k3 : q ≤ upI g.2.2 g.1 l k := k3
    by_cases e : k = g.1
    · subst e; rw [upI_s] at k2 k3; exact Or.inr ⟨k2, k3⟩
    · rw [upI_n _ _ e] at k2 k3; exact Or.inl ⟨k, k0, by omega, k2, k3⟩
  · rcases z with ⟨k, k0, k1, k2, k3⟩ | ⟨z1, z2⟩
    · refine ⟨k, k0, by show k < g.1 + 1; omega, ?_, ?_⟩
      · show upI g.2.1 g.1 f k ≤ q; rw [upI_n _ _ (by omega)]; exact k2
      · show q ≤ upI g.2.2 g.1 l k; rw [upI_n _ _ (by omega)]; exact k3
    · refine ⟨g.1, h0, by show g.1 < g.1 + 1; omega, ?_, ?_⟩
      · show upI g.2.1 g.1 f g.1 ≤ q; rw [upI_s]; exact z1
      · show q ≤ upI g.2.2 g.1 l g.1; rw [upI_s]; exact z2
def CI1 (g : SpT) (fr to pg o : Int) (G : SpT) : Prop := VL G pg ∧ G.1 ≤ 2 * o ∧ (0 < G.1 → 0 < o ∧ G.2.2 (G.1 - 1) ≤ g.2.2 (o - 1)) ∧ ∀ q, cov G q ↔ cvz g o q ∧ ¬ (fr ≤ q ∧ q ≤ to)
def CI2 (g : SpT) (fr to pg o : Int) (G : SpT) : Prop := VL G pg ∧ G.1 ≤ 2 * o + 1 ∧ (0 < G.1 → (0 < o ∧ G.2.2 (G.1 - 1) ≤ g.2.2 (o - 1)) ∨ G.2.2 (G.1 - 1) ≤ fr - 1) ∧ (0 < G.1 → G.2.2 (G.1 - 1) ≤ g.2.2 o) ∧ ∀ q, cov G q ↔ (cvz g o q ∧ ¬ (fr ≤ q ∧ q ≤ to)) ∨ (g.2.1 o ≤ q ∧ q ≤ g.2.2 o ∧ q < fr)
theorem ci_0 {g : SpT} {fr to pg : Int} (F L : Int → Int) : CI1 g fr to pg 0 (0, F, L) :=
  ⟨vl_z rfl pg, by show (0 : Int) ≤ 2 * 0; decide, fun z => absurd z (by show ¬ (0 : Int) < 0; decide), fun q => ⟨fun z => (cov_z rfl q z).elim, fun z => (cvz_0 q z.1).elim⟩⟩
section CIs
variable {g G : SpT} {fr to pg o : Int}
theorem ci_12n (h : CI1 g fr to pg o G) (hv : VL g pg) (ho : 0 ≤ o ∧ o < g.1) (c : fr ≤ g.2.1 o) : CI2 g fr to pg o G := by
  obtain ⟨h1, h2, h3, h4⟩ := h
  refine ⟨h1, by omega, fun z => Or.inl (h3 z), fun z => ?_, fun q => (h4 q).trans ⟨fun z => Or.inl z, fun z => z.elim id (fun z => by omega)⟩⟩
  have w := h3 z
  have w2 := vl_lt hv (i := o - 1) (j := o) (by omega) (by omega) ho.2
  have w3 := hv.2.2.1 o ho.1 ho.2
  omega
theorem ci_12y (h : CI1 g fr to pg o G) (hv : VL g pg) (h8 : g.1 ≤ 8) (hf : 1 ≤ fr ∧ fr ≤ to ∧ to ≤ pg) (ho : 0 ≤ o ∧ o < g.1) (c : g.2.1 o < fr) : CI2 g fr to pg o (apn G (g.2.1 o) (min (g.2.2 o) (fr - 1))) := by
  obtain ⟨h1, h2, h3, h4⟩ := h
  have w3 := hv.2.2.1 o ho.1 ho.2
  have w := apn_ok (f := g.2.1 o) (l := min (g.2.2 o) (fr - 1)) h1 (by omega) (fun z => by
    have w := h3 z
    have w2 := vl_lt hv (i := o - 1) (j := o) (by omega) (by omega) ho.2
    omega) (by omega)
  refine ⟨w.1, by show G.1 + 1 ≤ 2 * o + 1; omega, fun _ => Or.inr ?_, fun _ => ?_, fun q => (w.2 q).trans ?_⟩
  · show upI G.2.2 G.1 (min (g.2.2 o) (fr - 1)) (G.1 + 1 - 1) ≤ fr - 1
    rw [show G.1 + 1 - 1 = G.1 by omega, upI_s]; omega
  · show upI G.2.2 G.1 (min (g.2.2 o) (fr - 1)) (G.1 + 1 - 1) ≤ g.2.2 o
    rw [show G.1 + 1 - 1 = G.1 by omega, upI_s]; omega
  · rw [h4 q]
    constructor
    · rintro (z | z)
      · exact Or.inl z
      · exact Or.inr (by omega)
    · rintro (z | z)
      · exact Or.inl z
      · exact Or.inr (by omega)
theorem ci_21n (h : CI2 g fr to pg o G) (hv : VL g pg) (ho : 0 ≤ o ∧ o < g.1) (c : g.2.2 o ≤ to) : CI1 g fr to pg (o + 1) G := by
  obtain ⟨h1, h2, h3, h5, h4⟩ := h
  refine ⟨h1, by omega, fun z => ⟨by omega, by rw [show o + 1 - 1 = o by omega]; exact h5 z⟩, fun q => (h4 q).trans ?_⟩
  rw [cvz_s ho.1]
  constructor
  · rintro (⟨z1, z2⟩ | z)
    · exact ⟨Or.inl z1, z2⟩
    · exact ⟨Or.inr ⟨z.1, z.2.1⟩, by omega⟩
  · rintro ⟨z1 | z1, z2⟩
    · exact Or.inl ⟨z1, z2⟩
    · exact Or.inr (by omega)
theorem ci_21y (h : CI2 g fr to pg o G) (hv : VL g pg) (h8 : g.1 ≤ 8) (hf : 1 ≤ fr ∧ fr ≤ to ∧ to ≤ pg) (ho : 0 ≤ o ∧ o < g.1) (c : to < g.2.2 o) : CI1 g fr to pg (o + 1) (apn G (max (g.2.1 o) (to + 1)) (g.2.2 o)) := by
  obtain ⟨h1, h2, h3, h5, h4⟩ := h
  have w3 := hv.2.2.1 o ho.1 ho.2
  have w := apn_ok (f := max (g.2.1 o) (to + 1)) (l := g.2.2 o) h1 (by omega) (fun z => by
    rcases h3 z with w | w
    · have w2 := vl_lt hv (i := o - 1) (j := o) (by omega) (by omega) ho.2
      omega
    · omega) (by omega)
  refine ⟨w.1, by show G.1 + 1 ≤ 2 * (o + 1); omega, fun _ => ⟨by omega, ?_⟩, fun q => (w.2 q).trans ?_⟩
  · show upI G.2.2 G.1 (g.2.2 o) (G.1 + 1 - 1) ≤ g.2.2 (o + 1 - 1)
    rw [show G.1 + 1 - 1 = G.1 by omega, upI_s, show o + 1 - 1 = o by omega]; omega
  · rw [h4 q, cvz_s ho.1]
    constructor
    · rintro ((⟨z1, z2⟩ | z) | z)
      · exact ⟨Or.inl z1, z2⟩
      · exact ⟨Or.inr ⟨z.1, z.2.1⟩, by omega⟩
      · exact ⟨Or.inr (by omega), by omega⟩
    · rintro ⟨z1 | z1, z2⟩
      · exact Or.inl (Or.inl ⟨z1, z2⟩)
      · by_cases c2 : q < fr
        · exact Or.inl (Or.inr (by omega))
        · exact Or.inr (by omega)
end CIs
/-! a row of spans put in their order -/
theorem smI_all {f : Int → Int} {z : Int} (hz : 0 ≤ z) (h : ∀ j : Int, 0 ≤ j → j < z → f j = 1) : smI f z.toNat = z := by
  have w : ∀ n : Nat, (n : Int) ≤ z → smI f n = n := by
    intro n
    induction n with
    | zero => intro _; rfl
    | succ n ih =>
      intro hn
      show smI f n + f n = _
      rw [ih (by omega), h n (by omega) (by omega)]; omega
  rw [w z.toNat (by omega)]; omega
theorem smI_up {f : Int → Int} {n y : Int} (hy : 0 ≤ y ∧ y < n) (v : Int) : smI (upI f y v) n.toNat = smI f n.toNat + (v - f y) := by
  have w : ∀ k : Nat, smI (upI f y v) k = smI f k + (if y < k then v - f y else 0) := by
    intro k
    induction k with
    | zero => show (0 : Int) = 0 + _; rw [if_neg (by omega)]; rfl
    | succ k ih =>
      show smI (upI f y v) k + upI f y v k = smI f k + f k + _
      rw [ih]
      by_cases e : (k : Int) = y
      · rw [e, upI_s, if_neg (by omega), if_pos (by omega)]; omega
      · rw [upI_n _ _ e]
        by_cases c : y < k
        · rw [if_pos c, if_pos (by omega)]; omega
        · rw [if_neg c, if_neg (by omega)]; omega
  rw [w, if_pos (by omega)]
/-- the spans made so far: of those rows that are done -/
def MG (g : SpT) (pg : Int) (dn : Int → Int) (k bd : Int) (G : SpT) : Prop := MK G pg k bd (fun q => ∃ j : Int, 0 ≤ j ∧ j < g.1 ∧ dn j = 1 ∧ g.2.1 j ≤ q ∧ q ≤ g.2.2 j) ∧ ∀ j : Int, 0 ≤ j → j < g.1 → dn j = 0 → bd ≤ g.2.1 j
theorem mg_0 {g : SpT} {pg : Int} (hb : ∀ j : Int, 0 ≤ j → j < g.1 → 1 ≤ g.2.1 j ∧ g.2.1 j ≤ g.2.2 j ∧ g.2.2 j ≤ pg) (F L : Int → Int) : MG g pg (fun _ => 0) 0 0 (0, F, L) :=
  ⟨mk_0 (Int.le_refl _) (fun q ⟨j, _, _, z, _⟩ => absurd (show (0 : Int) = 1 from z) (by decide)), fun j h0 h1 _ => by have := hb j h0 h1; omega⟩
theorem mg_s {g G : SpT} {pg k bd nx : Int} {dn : Int → Int} (h : MG g pg dn k bd G) (hb : ∀ j : Int, 0 ≤ j → j < g.1 → 1 ≤ g.2.1 j ∧ g.2.1 j ≤ g.2.2 j ∧ g.2.2 j ≤ pg) (hk : k < 16) (hn : 0 ≤ nx ∧ nx < g.1 ∧ dn nx = 0) (hm : ∀ j : Int, 0 ≤ j → j < g.1 → dn j = 0 → g.2.1 nx ≤ g.2.1 j) : MG g pg (upI dn nx 1) (k + 1) (g.2.1 nx) (apd G (g.2.1 nx) (g.2.2 nx) 0) := by
  refine ⟨mk_a h.1 (hb nx hn.1 hn.2.1) (h.2 nx hn.1 hn.2.1 hn.2.2) hk (fun q => ⟨fun ⟨j, j0, j1, j2, j3⟩ => ?_, fun z => ?_⟩), fun j j0 j1 j2 => ?_⟩
  · by_cases e : j = nx
    · subst e; exact Or.inr j3
    · rw [upI_n _ _ e] at j2; exact Or.inl ⟨j, j0, j1, j2, j3⟩
  · rcases z with ⟨j, j0, j1, j2, j3⟩ | z
    · refine ⟨j, j0, j1, ?_, j3⟩
      rw [upI_if]
      by_cases e : j = nx
      · rw [if_pos e]
      · rw [if_neg e]; exact j2
    · exact ⟨nx, hn.1, hn.2.1, upI_s _ _ _, z⟩
  · by_cases e : j = nx
    · subst e; rw [upI_s] at j2; exact absurd j2 (by decide)
    · rw [upI_n _ _ e] at j2; exact hm j j0 j1 j2
theorem mg_n {g G : SpT} {pg k bd nx : Int} {dn : Int → Int} (h : MG g pg (upI dn nx 1) (k + 1) bd (apd G (g.2.1 nx) (g.2.2 nx) 0)) (c : G.1 = 0 ∨ G.2.2 (G.1 - 1) + 1 < g.2.1 nx) (hG : 0 ≤ G.1 ∧ G.1 < 16) : MG g pg (upI dn nx 1) (k + 1) bd (apn G (g.2.1 nx) (g.2.2 nx)) := by
  unfold apd at h
  rw [if_neg (by omega), if_pos hG.2] at h
  exact h
theorem mg_y {g G : SpT} {pg k bd nx : Int} {dn : Int → Int} (h : MG g pg (upI dn nx 1) (k + 1) bd (apd G (g.2.1 nx) (g.2.2 nx) 0)) (c : 0 < G.1 ∧ g.2.1 nx ≤ G.2.2 (G.1 - 1) + 1) : MG g pg (upI dn nx 1) (k + 1) bd (G.1, upI G.2.1 (G.1 - 1) (G.2.1 (G.1 - 1)), upI G.2.2 (G.1 - 1) (max (G.2.2 (G.1 - 1)) (g.2.2 nx))) := by
  unfold apd at h
  rw [if_pos (by omega)] at h
  rw [upI_x _ rfl]
  exact h
theorem mg_e {g G : SpT} {pg k bd : Int} {dn : Int → Int} (h : MG g pg dn k bd G) (hd : ∀ j, dn j = 0 ∨ dn j = 1) (hk : smI dn g.1.toNat = k) (h0 : 0 ≤ g.1) (hkn : g.1 ≤ k) : VL G pg ∧ ∀ q, cov G q ↔ cov g q := by
  have hall : ∀ j : Int, 0 ≤ j → j < g.1 → dn j = 1 := by
    intro j j0 j1
    rcases hd j with c | c
    · exfalso
      have w := smI_up (f := dn) ⟨j0, j1⟩ 1
      have w2 := smI_01 (f := upI dn j 1) h0 (fun i _ _ => by
        rw [upI_if]
        by_cases e : i = j
        · rw [if_pos e]; omega
        · rw [if_neg e]; have := hd i; omega)
      omega
    · exact c
  refine ⟨h.1.1, fun q => (h.1.2.2.2 q).trans ⟨fun ⟨j, j0, j1, _, j3⟩ => ⟨j, j0, j1, j3⟩, fun ⟨j, j0, j1, j3⟩ => ⟨j, j0, j1, hall j j0 j1, j3⟩⟩⟩
theorem dn_some {dn : Int → Int} {n k : Int} (hd : ∀ j, dn j = 0 ∨ dn j = 1) (hk : smI dn n.toNat = k) (h0 : 0 ≤ n) (hkn : k < n) : ¬ ∀ j : Int, 0 ≤ j → j < n → dn j = 1 := fun z => by
  have w := smI_all h0 z
  omega
/-- the same pages, the same spans -/
theorem vl_uniq {g o : SpT} {pg pg2 : Int} (hg : VL g pg) (ho : VL o pg2) (h : ∀ q, cov g q ↔ cov o q) : g.1 = o.1 ∧ ∀ k : Int, 0 ≤ k → k < g.1 → g.2.1 k = o.2.1 k ∧ g.2.2 k = o.2.2 k := by
  have key : ∀ (x y : SpT) (p1 p2 : Int), VL x p1 → VL y p2 → (∀ q, cov x q ↔ cov y q) → ∀ n : Nat, (n : Int) < x.1 → (∀ k : Int, 0 ≤ k → k < n → k < y.1 ∧ x.2.1 k = y.2.1 k ∧ x.2.2 k = y.2.2 k) → (n : Int) < y.1 ∧ y.2.1 n ≤ x.2.1 n := by
    intro x y p1 p2 hx hy hc n hn ih
    have hb := hx.2.2.1 n (by omega) hn
    obtain ⟨j, j0, j1, j2, j3⟩ := (hc (x.2.1 n)).mp ⟨n, by omega, hn, by omega, by omega⟩
    have hjn : (n : Int) ≤ j := by
      apply Classical.byContradiction
      intro c
      have w := ih j j0 (by omega)
      have w2 := vl_lt hx j0 (show j < n by omega) hn
      omega
    refine ⟨by omega, ?_⟩
    by_cases e : j = n
    · subst e; exact j2
    · have w := vl_lt hy (i := n) (j := j) (by omega) (by omega) j1
      have w2 := hy.2.2.1 n (by omega) (by omega)
      omega
  have kend : ∀ (x y : SpT) (p1 p2 : Int), VL x p1 → VL y p2 → (∀ q, cov x q ↔ cov y q) → ∀ n : Int, 0 ≤ n → n < x.1 → n < y.1 → x.2.1 n = y.2.1 n → y.2.2 n ≤ x.2.2 n := by
    intro x y p1 p2 hx hy hc n n0 hn hn2 he
    apply Classical.byContradiction
    intro c
    have hb := hx.2.2.1 n n0 hn
    have hb2 := hy.2.2.1 n n0 hn2
    have w := (hc (x.2.2 n + 1)).mpr ⟨n, n0, hn2, by omega, by omega⟩
    have w2 := (cov_at hx ⟨n0, hn⟩ (q := x.2.2 n + 1) (by omega) (by omega)).mp w
    omega
  have main : ∀ n : Nat, (∀ k : Int, 0 ≤ k → k < n → k < g.1 → k < o.1 ∧ g.2.1 k = o.2.1 k ∧ g.2.2 k = o.2.2 k) ∧ (∀ k : Int, 0 ≤ k → k < n → k < o.1 → k < g.1 ∧ o.2.1 k = g.2.1 k ∧ o.2.2 k = g.2.2 k) := by
    intro n
    induction n with
    | zero => exact ⟨fun k h0 h1 => by omega, fun k h0 h1 => by omega⟩
    | succ n ih =>
      have step : ∀ (x y : SpT) (p1 p2 : Int), VL x p1 → VL y p2 → (∀ q, cov x q ↔ cov y q) → (∀ k : Int, 0 ≤ k → k < n → k < x.1 → k < y.1 ∧ x.2.1 k = y.2.1 k ∧ x.2.2 k = y.2.2 k) → (∀ k : Int, 0 ≤ k → k < n → k < y.1 → k < x.1 ∧ y.2.1 k = x.2.1 k ∧ y.2.2 k = x.2.2 k) → (n : Int) < x.1 → (n : Int) < y.1 ∧ x.2.1 n = y.2.1 n ∧ x.2.2 n = y.2.2 n := by
        intro x y p1 p2 hx hy hc i1 i2 hn
        have a := key x y p1 p2 hx hy hc n hn (fun k k0 k1 => i1 k k0 k1 (by omega))
        have b := key y x p2 p1 hy hx (fun q => (hc q).symm) n a.1 (fun k k0 k1 => i2 k k0 k1 (by omega))
        have e : x.2.1 n = y.2.1 n := by omega
        have c1 := kend x y p1 p2 hx hy hc n (by omega) hn a.1 e
        have c2 := kend y x p2 p1 hy hx (fun q => (hc q).symm) n (by omega) a.1 hn e.symm
        exact ⟨a.1, e, by omega⟩
      refine ⟨fun k k0 k1 k2 => ?_, fun k k0 k1 k2 => ?_⟩
      · by_cases e : k = n
        · subst e; exact step g o pg pg2 hg ho h ih.1 ih.2 k2
        · exact ih.1 k k0 (by omega) k2
      · by_cases e : k = n
        · subst e; exact step o g pg2 pg ho hg (fun q => (h q).symm) ih.2 ih.1 k2
        · exact ih.2 k k0 (by omega) k2
  have h0 := hg.1
  have h1 := ho.1
  have w1 : g.1 ≤ o.1 := by
    apply Classical.byContradiction
    intro c
    have w := (main g.1.toNat).1 o.1 h1 (by omega) (by omega)
    omega
  have w2 : o.1 ≤ g.1 := by
    apply Classical.byContradiction
    intro c
    have w := (main o.1.toNat).2 g.1 h0 (by omega) (by omega)
    omega
  exact ⟨by omega, fun k k0 k1 => ((main g.1.toNat).1 k k0 (by omega) k1).2⟩
/-! following the sees, by hand -/
def WY (se : Int → Int) : Nat → Int → Int → Prop
  | 0, x, y => x = y
  | i + 1, x, y => se x ≠ -1 ∧ WY se i (se x) y
theorem wy_snoc {se : Int → Int} : ∀ {i : Nat} {x y : Int}, WY se i x y → se y ≠ -1 → WY se (i + 1) x (se y)
  | 0, x, y, h, hs => by
    have h : x = y := h
    subst h
    exact ⟨hs, rfl⟩
  | i + 1, x, y, h, hs => ⟨h.1, wy_snoc h.2 hs⟩
theorem wy_run {se : Int → Int} : ∀ (i : Nat) {x y : Int}, WY se i x y → ∀ t : Nat, (t ≤ i → eS se t x = -1 ∨ (t = i ∧ True)) ∧ (i ≤ t → eS se t x = eS se (t - i) y)
  | 0, x, y, h, t => by
    have h : x = y := h
    subst h
    exact ⟨fun z => Or.inr ⟨by omega, trivial⟩, fun _ => rfl⟩
  | i + 1, x, y, h, t => by
    match t with
    | 0 => exact ⟨fun _ => Or.inl rfl, fun z => absurd z (by omega)⟩
    | t + 1 =>
      have e : eS se (t + 1) x = eS se t (se x) := by
        have w := eS_n (se := se) (t := ((t + 1 : Nat) : Int)) (x := x) (by omega) h.1
        rw [show (((t + 1 : Nat) : Int)).toNat = t + 1 by omega, show (((t + 1 : Nat) : Int) - 1).toNat = t by omega] at w
        exact w
      have ih := wy_run i h.2 t
      refine ⟨fun z => ?_, fun z => ?_⟩
      · rw [e]
        rcases ih.1 (by omega) with w | w
        · exact Or.inl w
        · exact Or.inr ⟨by omega, trivial⟩
      · rw [e, ih.2 (by omega), show t + 1 - (i + 1) = t - i by omega]
theorem wy_loop {se : Int → Int} {i : Nat} {y : Int} (hi : 0 < i) (h : WY se i y y) : ∀ t : Nat, eS se t y = -1 := by
  intro t
  induction t using Nat.strongRecOn with
  | ind t ih =>
    by_cases c : t < i
    · rcases (wy_run i h t).1 (by omega) with w | w
      · exact w
      · omega
    · rw [(wy_run i h t).2 (by omega)]
      exact ih (t - i) (by omega)
theorem wy_ne {se : Int → Int} {i : Nat} {x y : Int} (hi : 0 < i) (h : WY se i x y) : se x ≠ -1 := by
  match i, hi, h with
  | i + 1, _, h => exact h.1
/-! the loops of end and merged, by hand -/
theorem cnt_up {wf : Int → Int} {n y j : Int} (h01 : ∀ k, wf k = 0 ∨ wf k = 1) (hj : smI wf n.toNat = j) (hy : 0 ≤ y ∧ y < n) (h0 : wf y = 0) : smI (upI wf y 1) n.toNat = j + 1 ∧ j + 1 ≤ n := by
  have u1 := smI_up (f := wf) hy 1
  have u2 := smI_01 (f := upI wf y 1) (z := n) (by omega) (fun i _ _ => by
    rw [upI_if]
    by_cases e : i = y
    · rw [if_pos e]; omega
    · rw [if_neg e]; have := h01 i; omega)
  omega
/-- headings that were come by: from each a way leads here -/
def HWY (se wf : Int → Int) (n y : Int) : Prop := ∀ k : Int, 0 ≤ k → k < n → wf k = 1 → ∃ i : Nat, 0 < i ∧ WY se i k y
theorem hwy_s {se wf : Int → Int} {n y : Int} (h : HWY se wf n y) (hs : se y ≠ -1) : HWY se (upI wf y 1) n (se y) := by
  intro k k0 k1 w
  by_cases e : k = y
  · exact ⟨1, by decide, by rw [e]; exact ⟨hs, rfl⟩⟩
  · rw [upI_n _ _ e] at w
    obtain ⟨i, i0, i1⟩ := h k k0 k1 w
    exact ⟨i + 1, by omega, wy_snoc i1 hs⟩
theorem hwy_1 {se wf : Int → Int} {n y : Int} (h : HWY se wf n y) (hy : 0 ≤ y ∧ y < n) (w : wf y = 1) (t : Nat) : eS se t y = -1 := by
  obtain ⟨i, i0, i1⟩ := h y hy.1 hy.2 w
  exact wy_loop i0 i1 t
theorem hwy_0 {se wf : Int → Int} {n y : Int} (h : HWY se wf n y) (h01 : ∀ k, wf k = 0 ∨ wf k = 1) (hy : 0 ≤ y ∧ y < n) (hs : se y = -1) : wf y = 0 := by
  rcases h01 y with w | w
  · exact w
  · obtain ⟨i, i0, i1⟩ := h y hy.1 hy.2 w
    exact absurd hs (wy_ne i0 i1)
/-- the next row: the one with the least start of those that aren't done, of the first y -/
def NXT (g : SpT) (dn : Int → Int) (y nx : Int) : Prop := (nx = -1 ∧ ∀ j : Int, 0 ≤ j → j < y → dn j = 1) ∨ ((0 ≤ nx ∧ nx < y ∧ dn nx = 0) ∧ ∀ j : Int, 0 ≤ j → j < y → dn j = 0 → g.2.1 nx ≤ g.2.1 j)
section NXs
variable {g : SpT} {dn : Int → Int} {y nx : Int}
theorem nxt_0 : NXT g dn 0 (-1) := Or.inl ⟨rfl, fun j h0 h1 => by omega⟩
theorem nxt_r (h : NXT g dn y nx) : nx = -1 ∨ (0 ≤ nx ∧ nx < y) := by
  rcases h with w | w
  · exact Or.inl w.1
  · exact Or.inr ⟨w.1.1, w.1.2.1⟩
theorem nxt_d (h : NXT g dn y nx) (hd : ∀ j, dn j = 0 ∨ dn j = 1) (c : dn y ≠ 0) : NXT g dn (y + 1) nx := by
  rcases h with w | w
  · refine Or.inl ⟨w.1, fun j j0 j1 => ?_⟩
    by_cases e : j = y
    · rw [e]; have := hd y; omega
    · exact w.2 j j0 (by omega)
  · refine Or.inr ⟨⟨w.1.1, by omega, w.1.2.2⟩, fun j j0 j1 j2 => ?_⟩
    by_cases e : j = y
    · rw [e] at j2; exact absurd j2 c
    · exact w.2 j j0 (by omega) j2
theorem nxt_f (h : NXT g dn y nx) (hd : ∀ j, dn j = 0 ∨ dn j = 1) (hy : 0 ≤ y) (c0 : dn y = 0) (c : nx < 0) : NXT g dn (y + 1) y := by
  rcases h with w | w
  · refine Or.inr ⟨⟨hy, by omega, c0⟩, fun j j0 j1 j2 => ?_⟩
    by_cases e : j = y
    · rw [e]; omega
    · have := w.2 j j0 (by omega); omega
  · exfalso; omega
theorem nxt_l (h : NXT g dn y nx) (hy : 0 ≤ y) (c0 : dn y = 0) (cn : 0 ≤ nx) (c : g.2.1 y < g.2.1 nx) : NXT g dn (y + 1) y := by
  rcases h with w | w
  · exfalso; omega
  · refine Or.inr ⟨⟨hy, by omega, c0⟩, fun j j0 j1 j2 => ?_⟩
    by_cases e : j = y
    · rw [e]; omega
    · have := w.2 j j0 (by omega) j2; omega
theorem nxt_g (h : NXT g dn y nx) (cn : 0 ≤ nx) (c : g.2.1 nx ≤ g.2.1 y) : NXT g dn (y + 1) nx := by
  rcases h with w | w
  · exfalso; omega
  · refine Or.inr ⟨⟨w.1.1, by omega, w.1.2.2⟩, fun j j0 j1 j2 => ?_⟩
    by_cases e : j = y
    · rw [e]; omega
    · exact w.2 j j0 (by omega) j2
theorem nxt_e (h : NXT g dn y nx) (hd : ∀ j, dn j = 0 ∨ dn j = 1) {k : Int} (hk : smI dn g.1.toNat = k) (h0 : 0 ≤ g.1) (hkn : k < g.1) (hy : g.1 ≤ y) (hy2 : y ≤ g.1) : (0 ≤ nx ∧ nx < g.1 ∧ dn nx = 0) ∧ ∀ j : Int, 0 ≤ j → j < g.1 → dn j = 0 → g.2.1 nx ≤ g.2.1 j := by
  have e : y = g.1 := by omega
  subst e
  rcases h with w | w
  · exact absurd w.2 (dn_some hd hk h0 hkn)
  · exact w
end NXs
theorem low_s {rr : Int → Nat} {G1 : Int} {a x : Nat} (h : ∀ j : Int, 0 ≤ j → j < G1 → rr j ≠ x) (ha : a ≠ x) : ∀ j : Int, 0 ≤ j → j < G1 + 1 → upI rr G1 a j ≠ x := by
  intro j j0 j1
  rw [upI_if]
  by_cases e : j = G1
  · rw [if_pos e]; exact ha
  · rw [if_neg e]; exact h j j0 (by omega)
