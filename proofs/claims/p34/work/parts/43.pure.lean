/-! WHAT law FINDS -/
theorem smI_le {f g : Int → Int} : ∀ {n : Nat}, (∀ k : Int, 0 ≤ k → k < n → f k ≤ g k) → smI f n ≤ smI g n
  | 0, _ => Int.le_refl _
  | n + 1, h => by
    have w := smI_le (n := n) (fun k h0 h1 => h k h0 (by omega))
    have v := h n (by omega) (by omega)
    show smI f n + f n ≤ smI g n + g n
    omega
/-! spans in a row -/
theorem sc_on {g : SpT} {pg k : Int} (hv : VL g pg) (hk : 0 ≤ k ∧ k < g.1) : cov g (g.2.1 k) ∧ cov g (g.2.2 k) ∧ ¬ cov g (g.2.1 k - 1) ∧ ¬ cov g (g.2.2 k + 1) := by
  have b := hv.2.2.1 k hk.1 hk.2
  refine ⟨⟨k, hk.1, hk.2, Int.le_refl _, b.2.1⟩, ⟨k, hk.1, hk.2, b.2.1, Int.le_refl _⟩, ?_, ?_⟩
  · rintro ⟨j, j0, j1, j2, j3⟩
    have bj := hv.2.2.1 j j0 j1
    rcases Int.lt_trichotomy j k with c | c | c
    · have w := vl_lt hv j0 c hk.2; omega
    · subst c; omega
    · have w := vl_lt hv hk.1 c j1; omega
  · rintro ⟨j, j0, j1, j2, j3⟩
    have bj := hv.2.2.1 j j0 j1
    rcases Int.lt_trichotomy j k with c | c | c
    · have w := vl_lt hv j0 c hk.2; omega
    · subst c; omega
    · have w := vl_lt hv hk.1 c j1; omega
def LAS (g : SpT) (k la : Int) : Prop := (k = 0 ∧ la = -1) ∨ (0 < k ∧ la = g.2.2 (k - 1))
theorem las_0 {g : SpT} : LAS g 0 (-1) := Or.inl ⟨rfl, rfl⟩
theorem las_s {g : SpT} {k : Int} (hk : 0 ≤ k) : LAS g (k + 1) (g.2.2 k) := Or.inr ⟨by omega, by rw [show k + 1 - 1 = k by omega]⟩
theorem las_r {g : SpT} {pg k la : Int} (hv : VL g pg) (hk : 0 ≤ k ∧ k ≤ g.1) (hl : LAS g k la) : -1 ≤ la ∧ la ≤ max pg 0 := by
  rcases hl with ⟨h, e⟩ | ⟨h, e⟩
  · omega
  · have b := hv.2.2.1 (k - 1) (by omega) (by omega)
    omega
theorem las_far {g : SpT} {pg k la : Int} (hv : VL g pg) (hk : 0 ≤ k ∧ k < g.1) (hl : LAS g k la) : la ≤ 0 ∨ la + 2 ≤ g.2.1 k := by
  rcases hl with ⟨h, e⟩ | ⟨h, e⟩
  · omega
  · have w := vl_lt hv (i := k - 1) (j := k) (by omega) (by omega) hk.2
    omega
theorem pgs_le {g : SpT} {pg : Int} (hv : VL g pg) (hp : 0 ≤ pg) : 0 ≤ PGS g ∧ PGS g ≤ pg := by
  rw [show PGS g = smI (fun k => pI (cov g (k + 1))) pg.toNat from pg_sum hv hp]
  exact smI_01 hp (fun _ _ _ => pI_b _)
theorem pgp_s {g : SpT} {k : Int} (hk : 0 ≤ k) : smI (fun k => g.2.2 k - g.2.1 k + 1) (k + 1).toNat = smI (fun k => g.2.2 k - g.2.1 k + 1) k.toNat + (g.2.2 k - g.2.1 k + 1) := smI_s _ hk
theorem pgp_r {g : SpT} {pg k : Int} (hv : VL g pg) (hp : pg ≤ 300) (hk : 0 ≤ k ∧ k ≤ g.1) : 0 ≤ smI (fun k => g.2.2 k - g.2.1 k + 1) k.toNat ∧ smI (fun k => g.2.2 k - g.2.1 k + 1) k.toNat ≤ 4800 := by
  have w := smI_b (f := fun k => g.2.2 k - g.2.1 k + 1) (a := 0) (b := 300) (by decide) (n := k.toNat) (fun j j0 j1 => by
    have b := hv.2.2.1 j j0 (by omega)
    show 0 ≤ g.2.2 j - g.2.1 j + 1 ∧ g.2.2 j - g.2.1 j + 1 ≤ 300
    omega)
  have v := hv.2.1
  omega
theorem gap_le {g : SpT} {pg gap : Int} (hv : VL g pg) (hg : 0 ≤ gap) (hp : 0 ≤ pg) : (spS (cov g) gap pg.toNat).1 ≤ g.1 := by
  rw [cnt_all hv hg hp]
  exact (smI_01 hv.1 (fun _ _ _ => pI_b _)).2
theorem com_self {sp : Int → SpT} {pg u : Int} (hv : VL (sp u) pg) (hp : 0 ≤ pg) : COM sp pg u u = PGS (sp u) := by
  rw [show PGS (sp u) = smI (fun k => pI (cov (sp u) (k + 1))) pg.toNat from pg_sum hv hp]
  exact smI_c (fun k _ _ => pI_c ⟨fun z => z.1, fun z => ⟨z, z⟩⟩)
theorem tog_self {sp : Int → SpT} {pg u : Int} (hv : VL (sp u) pg) (hp : 0 ≤ pg) : TOG sp pg u u = (sp u).1 := by
  rw [vl_ns hv hp]
  show (spS (fun q => cov (sp u) q ∨ cov (sp u) q) 0 pg.toNat).1 = _
  rw [spS_c (P := fun q => cov (sp u) q ∨ cov (sp u) q) (Q := cov (sp u)) (fun q _ _ => ⟨fun z => z.elim id id, Or.inl⟩)]
theorem com_sym {sp : Int → SpT} {pg u o : Int} : COM sp pg u o = COM sp pg o u := smI_c (fun k _ _ => pI_c And.comm)
theorem com_le {sp : Int → SpT} {pg u o : Int} (hv : VL (sp u) pg) (hp : 0 ≤ pg) : COM sp pg u o ≤ PGS (sp u) := by
  rw [show PGS (sp u) = smI (fun k => pI (cov (sp u) (k + 1))) pg.toNat from pg_sum hv hp]
  refine smI_le (fun k _ _ => ?_)
  show pI (cov (sp u) (k + 1) ∧ cov (sp o) (k + 1)) ≤ pI (cov (sp u) (k + 1))
  by_cases c : cov (sp u) (k + 1)
  · rw [pI_t c]; exact (pI_b _).2
  · rw [pI_f (fun z => c z.1), pI_f c]; exact Int.le_refl _
theorem com_r {sp : Int → SpT} {pg u o : Int} (hp : 0 ≤ pg) : 0 ≤ COM sp pg u o ∧ COM sp pg u o ≤ pg := smI_01 hp (fun _ _ _ => pI_b _)
theorem tog_sym {sp : Int → SpT} {pg u o : Int} : TOG sp pg u o = TOG sp pg o u := by
  show (spS _ 0 pg.toNat).1 = (spS _ 0 pg.toNat).1
  rw [spS_c (P := fun q => cov (sp u) q ∨ cov (sp o) q) (Q := fun q => cov (sp o) q ∨ cov (sp u) q) (fun q _ _ => or_comm)]
theorem tog_le {sp : Int → SpT} {pg u o : Int} (hu : VL (sp u) pg) (ho : VL (sp o) pg) (hp : 0 ≤ pg) : TOG sp pg u o ≤ (sp u).1 + (sp o).1 := by
  have u0 : ¬ cov (sp u) 0 := cov_out hu (Or.inl (by decide))
  have o0 : ¬ cov (sp o) 0 := cov_out ho (Or.inl (by decide))
  rw [vl_ns hu hp, vl_ns ho hp]
  show (spS (fun q => cov (sp u) q ∨ cov (sp o) q) 0 pg.toNat).1 ≤ _
  rw [← re_sp (P := fun q => cov (sp u) q ∨ cov (sp o) q) (fun z => z.elim u0 o0), ← re_sp u0, ← re_sp o0, ← smI_add]
  refine smI_le (fun k _ _ => ?_)
  show pI ((cov (sp u) (k + 1) ∨ cov (sp o) (k + 1)) ∧ ¬ (cov (sp u) k ∨ cov (sp o) k)) ≤ pI (cov (sp u) (k + 1) ∧ ¬ cov (sp u) k) + pI (cov (sp o) (k + 1) ∧ ¬ cov (sp o) k)
  have a := pI_b (cov (sp u) (k + 1) ∧ ¬ cov (sp u) k)
  have b := pI_b (cov (sp o) (k + 1) ∧ ¬ cov (sp o) k)
  by_cases c : (cov (sp u) (k + 1) ∨ cov (sp o) (k + 1)) ∧ ¬ (cov (sp u) k ∨ cov (sp o) k)
  · rw [pI_t c]
    rcases c.1 with z | z
    · rw [pI_t ⟨z, fun y => c.2 (Or.inl y)⟩]; omega
    · rw [pI_t (P := cov (sp o) (k + 1) ∧ ¬ cov (sp o) k) ⟨z, fun y => c.2 (Or.inr y)⟩]; omega
  · rw [pI_f c]; omega
/-! pages -/
theorem all_pages {sp : Int → SpT} {n pg : Int} (hs : SPV sp n pg) (hp : 0 ≤ pg) : smI (fun i => PGS (sp i)) n.toNat = smI (fun k => CHN sp n (k + 1)) pg.toNat := by
  rw [show smI (fun k => CHN sp n (k + 1)) pg.toNat = smI (fun i => smI (fun k => pI (cov (sp i) (k + 1))) pg.toNat) n.toNat from smI_swap (fun k i => pI (cov (sp i) (k + 1))) n.toNat pg.toNat]
  exact smI_c (fun i i0 i1 => pg_sum (hs i i0 (by omega)).1 hp)
theorem sumh_r {sp : Int → SpT} {n pg u : Int} (hs : SPV sp n pg) (hp : 0 ≤ pg ∧ pg ≤ 300) (hu : 0 ≤ u ∧ u ≤ n ∧ n ≤ 24) : 0 ≤ smI (fun i => PGS (sp i)) u.toNat ∧ smI (fun i => PGS (sp i)) u.toNat ≤ 7200 := by
  have w := smI_b (f := fun i => PGS (sp i)) (a := 0) (b := 300) (by decide) (n := u.toNat) (fun j j0 j1 => by
    have b := pgs_le (hs j j0 (by omega)).1 hp.1
    show 0 ≤ PGS (sp j) ∧ PGS (sp j) ≤ 300
    omega)
  omega
theorem sump_r {sp : Int → SpT} {n pg : Int} (hn : 0 ≤ n ∧ n ≤ 24) (hp : 0 ≤ pg ∧ pg ≤ 300) : 0 ≤ smI (fun k => CHN sp n (k + 1)) pg.toNat ∧ smI (fun k => CHN sp n (k + 1)) pg.toNat ≤ 7200 := by
  have w := smI_b (f := fun k => CHN sp n (k + 1)) (a := 0) (b := 24) (by decide) (n := pg.toNat) (fun j j0 j1 => by
    have b := CHN_b sp (n := n) (j + 1) hn.1
    show 0 ≤ CHN sp n (j + 1) ∧ CHN sp n (j + 1) ≤ 24
    omega)
  omega
/-- the most of the pages before p -/
def MOS (c : Int → Int) (p mo : Int) : Prop := (∀ x : Int, 1 ≤ x → x < p → c x ≤ mo) ∧ (mo = 0 ∨ ∃ x : Int, 1 ≤ x ∧ x < p ∧ c x = mo)
theorem mos_0 {c : Int → Int} : MOS c 1 0 := ⟨fun x h0 h1 => by omega, Or.inl rfl⟩
theorem mos_s {c : Int → Int} {p mo : Int} (h : MOS c p mo) (hp : 1 ≤ p) : MOS c (p + 1) (max mo (c p)) := by
  refine ⟨fun x h0 h1 => ?_, ?_⟩
  · by_cases e : x = p
    · rw [e]; omega
    · have w := h.1 x h0 (by omega); omega
  · by_cases e : mo ≤ c p
    · exact Or.inr ⟨p, hp, by omega, by omega⟩
    · rcases h.2 with w | ⟨x, x0, x1, x2⟩
      · exact Or.inl (by omega)
      · exact Or.inr ⟨x, x0, by omega, by omega⟩
theorem mos_e {c : Int → Int} {pg mo : Int} (h : MOS c (pg + 1) mo) (hp : 1 ≤ pg) (h0 : ∀ x, 0 ≤ c x) : c (flS c (pg - 1).toNat) = mo := by
  have w := flS_sp c (pg - 1).toNat
  rw [show (((pg - 1).toNat : Nat) : Int) + 1 = pg by omega] at w
  have a := h.1 _ w.1.1 (by omega)
  rcases h.2 with e | ⟨x, x0, x1, x2⟩
  · have b := h0 (flS c (pg - 1).toNat); omega
  · have b := w.2.1 x x0 (by omega); omega
/-! sees -/
theorem eS_end {se : Int → Int} : ∀ (t : Nat) (x : Int), eS se t x = -1 ∨ se (eS se t x) = -1
  | 0, _ => Or.inl rfl
  | t + 1, x => by
    show (if se x = -1 then x else eS se t (se x)) = -1 ∨ se (if se x = -1 then x else eS se t (se x)) = -1
    by_cases c : se x = -1
    · rw [if_pos c]; exact Or.inr c
    · rw [if_neg c]; exact eS_end t (se x)
theorem eS_self {se : Int → Int} {n a : Int} (ha : 0 ≤ a ∧ a < n) (h : se a = -1) : eS se n.toNat a = a := eS_y (by omega) h
theorem eS_see {se : Int → Int} {al : Int → Nat} {n a : Int} (hg : GR se al n) (hn : 0 ≤ n ∧ n ≤ 24) (ha : 0 ≤ a ∧ a < n) (h : se a ≠ -1) : eS se n.toNat a = eS se n.toNat (se a) := by
  rw [← eS_one hn hg.1 ha, eS_n (by omega) h, show n + 1 - 1 = n by omega]
/-! distances -/
def RT (se : Int → Int) (al : Int → Nat) (n : Int) (t : Nat) (a b : Int) : Prop := (itS se al n t (2 ^ a.toNat)).testBit b.toNat = true
section RTs
variable {se : Int → Int} {al : Int → Nat} {n : Int}
theorem stp_bit (hg : GR se al n) {z i : Int} (hz : 0 ≤ z ∧ z < n) (hi : 0 ≤ i) : (al z ||| sb (se z)).testBit i.toNat = true ↔ STP se al z i := by
  rw [Nat.testBit_or, Bool.or_eq_true, sb_bit (hg.1 z hz.1 hz.2).1 hi]
  exact or_comm
theorem sts_bit (hg : GR se al n) (m : Nat) {i : Int} (hi : 0 ≤ i) : (stS se al m n.toNat).testBit i.toNat = true ↔ ∃ z : Int, 0 ≤ z ∧ z < n ∧ m.testBit z.toNat = true ∧ STP se al z i := by
  rw [stS_bit]
  constructor
  · rintro ⟨z, z0, z1, z2⟩
    exact ⟨z, by omega, by omega, by rw [show ((z : Int)).toNat = z by omega]; exact z1, (stp_bit hg (by omega) hi).mp z2⟩
  · rintro ⟨z, z0, z1, z2, z3⟩
    refine ⟨z.toNat, by omega, z2, ?_⟩
    rw [show ((z.toNat : Nat) : Int) = z by omega]
    exact (stp_bit hg ⟨z0, z1⟩ hi).mpr z3
theorem it_bit (hg : GR se al n) (t m : Nat) {i : Int} (hi : 0 ≤ i) : (itS se al n (t + 1) m).testBit i.toNat = true ↔ (itS se al n t m).testBit i.toNat = true ∨ ∃ z : Int, 0 ≤ z ∧ z < n ∧ (itS se al n t m).testBit z.toNat = true ∧ STP se al z i := by
  rw [itS_s, Nat.testBit_or, Bool.or_eq_true, sts_bit hg _ hi]
theorem rt_0 {a b : Int} (ha : 0 ≤ a) (hb : 0 ≤ b) : RT se al n 0 a b ↔ a = b := by
  show (2 ^ a.toNat).testBit b.toNat = true ↔ _
  rw [Nat.testBit_two_pow]
  simp
  omega
theorem rt_s (hg : GR se al n) {t : Nat} {a b : Int} (hb : 0 ≤ b) : RT se al n (t + 1) a b ↔ RT se al n t a b ∨ ∃ z : Int, 0 ≤ z ∧ z < n ∧ RT se al n t a z ∧ STP se al z b := it_bit hg t _ hb
theorem rt_m (hg : GR se al n) {a b : Int} (hb : 0 ≤ b) {t : Nat} (h : RT se al n t a b) : ∀ d : Nat, RT se al n (t + d) a b
  | 0 => h
  | d + 1 => (rt_s hg hb).mpr (Or.inl (rt_m hg hb h d))
theorem rt_r (hg : GR se al n) {a : Int} (ha : 0 ≤ a) (t : Nat) : RT se al n t a a := by
  have w := rt_m hg ha ((rt_0 (se := se) (al := al) (n := n) ha ha).mpr rfl) t
  rwa [Nat.zero_add] at w
theorem rt_l (hg : GR se al n) {a : Int} (ha : 0 ≤ a ∧ a < n) : ∀ (t : Nat) (b : Int), 0 ≤ b ∧ b < n → (RT se al n (t + 1) a b ↔ a = b ∨ ∃ c : Int, 0 ≤ c ∧ c < n ∧ STP se al a c ∧ RT se al n t c b)
  | 0, b, hb => by
    rw [rt_s hg hb.1, rt_0 ha.1 hb.1]
    constructor
    · rintro (h | ⟨z, z0, z1, z2, z3⟩)
      · exact Or.inl h
      · have e := (rt_0 ha.1 z0).mp z2
        subst e
        exact Or.inr ⟨b, hb.1, hb.2, z3, rt_r hg hb.1 0⟩
    · rintro (h | ⟨c, c0, c1, c2, c3⟩)
      · exact Or.inl h
      · have e := (rt_0 c0 hb.1).mp c3
        subst e
        exact Or.inr ⟨a, ha.1, ha.2, rt_r hg ha.1 0, c2⟩
  | t + 1, b, hb => by
    rw [rt_s hg hb.1, rt_l hg ha t b hb]
    constructor
    · rintro ((h | ⟨c, c0, c1, c2, c3⟩) | ⟨z, z0, z1, z2, z3⟩)
      · exact Or.inl h
      · exact Or.inr ⟨c, c0, c1, c2, (rt_s hg hb.1).mpr (Or.inl c3)⟩
      · rcases (rt_l hg ha t z ⟨z0, z1⟩).mp z2 with e | ⟨c, c0, c1, c2, c3⟩
        · subst e
          exact Or.inr ⟨b, hb.1, hb.2, z3, rt_r hg hb.1 (t + 1)⟩
        · exact Or.inr ⟨c, c0, c1, c2, (rt_s hg hb.1).mpr (Or.inr ⟨z, z0, z1, c3, z3⟩)⟩
    · rintro (h | ⟨c, c0, c1, c2, c3⟩)
      · exact Or.inl (Or.inl h)
      · rcases (rt_s hg hb.1).mp c3 with h | ⟨z, z0, z1, z2, z3⟩
        · exact Or.inl (Or.inr ⟨c, c0, c1, c2, h⟩)
        · exact Or.inr ⟨z, z0, z1, (rt_l hg ha t z ⟨z0, z1⟩).mpr (Or.inr ⟨c, c0, c1, c2, z2⟩), z3⟩
theorem it_grow (hg : GR se al n) (hn : 0 ≤ n ∧ n ≤ 24) {m : Nat} (hm : m < 2 ^ n.toNat) (h1 : 1 ≤ pop m 24) : ∀ t : Nat, (itS se al n t m ||| stS se al (itS se al n t m) n.toNat = itS se al n t m) ∨ t + 1 ≤ pop (itS se al n t m) 24
  | 0 => Or.inr (by show 0 + 1 ≤ pop m 24; omega)
  | t + 1 => by
    by_cases c : itS se al n t m ||| stS se al (itS se al n t m) n.toNat = itS se al n t m
    · refine Or.inl ?_
      rw [itS_s, c, c]
    · rcases it_grow hg hn hm h1 t with h | h
      · exact absurd h c
      · refine Or.inr ?_
        have g := or_grow c (w := 24) (lt24 hn (by rw [← itS_s]; exact itS_lt hg hn.1 (t + 1) m hm))
        rw [← itS_s] at g
        omega
theorem it_sat (hg : GR se al n) (hn : 0 ≤ n ∧ n ≤ 24) {m : Nat} (hm : m < 2 ^ n.toNat) (h1 : 1 ≤ pop m 24) (k : Nat) : itS se al n (23 + k) m = itS se al n 23 m := by
  have f : itS se al n 23 m ||| stS se al (itS se al n 23 m) n.toNat = itS se al n 23 m := by
    rcases it_grow hg hn hm h1 23 with h | h
    · exact h
    · apply Classical.byContradiction
      intro c
      have g := or_grow c (w := 24) (lt24 hn (by rw [← itS_s]; exact itS_lt hg hn.1 (23 + 1) m hm))
      have v := pop_le (itS se al n 23 m ||| stS se al (itS se al n 23 m) n.toNat) 24
      omega
  rw [itS_add, itS_fix f]
theorem pw_n {a : Int} (ha : 0 ≤ a ∧ a < n) : 2 ^ a.toNat < 2 ^ n.toNat := Nat.pow_lt_pow_right (by decide) (by omega)
theorem pw_pop (hn : 0 ≤ n ∧ n ≤ 24) {a : Int} (ha : 0 ≤ a ∧ a < n) : 1 ≤ pop (2 ^ a.toNat) 24 := pop_pos (Nat.ne_of_gt (Nat.pow_pos (by decide))) (lt24 hn (pw_n ha))
theorem rt_23 (hg : GR se al n) (hn : 0 ≤ n ∧ n ≤ 24) {a b : Int} (ha : 0 ≤ a ∧ a < n) (hb : 0 ≤ b) {t : Nat} (h : RT se al n t a b) : RT se al n 23 a b := by
  by_cases c : t ≤ 23
  · have w := rt_m hg hb h (23 - t)
    rwa [show t + (23 - t) = 23 by omega] at w
  · unfold RT at h ⊢
    rw [show t = 23 + (t - 23) by omega, it_sat hg hn (pw_n ha) (pw_pop hn ha)] at h
    exact h
theorem fs_sp (b : Nat) : ∀ (k m : Nat) (t : Int), (∃ j : Nat, j < k ∧ (itS se al n j m).testBit b = true ∧ (∀ i : Nat, i < j → ¬ (itS se al n i m).testBit b = true) ∧ fsS se al n b k m t = t + j) ∨ ((∀ j : Nat, j < k → ¬ (itS se al n j m).testBit b = true) ∧ fsS se al n b k m t = -1)
  | 0, m, t => Or.inr ⟨fun j h => by omega, rfl⟩
  | k + 1, m, t => by
    have e : fsS se al n b (k + 1) m t = if m.testBit b = true then t else fsS se al n b k (m ||| stS se al m n.toNat) (t + 1) := rfl
    rw [e]
    by_cases c : m.testBit b = true
    · rw [if_pos c]
      exact Or.inl ⟨0, by omega, c, fun i h => by omega, by omega⟩
    · rw [if_neg c]
      rcases fs_sp b k (m ||| stS se al m n.toNat) (t + 1) with ⟨j, j0, j1, j2, j3⟩ | ⟨h1, h2⟩
      · refine Or.inl ⟨j + 1, by omega, j1, fun i hi => ?_, by rw [j3]; omega⟩
        cases i with
        | zero => exact c
        | succ i => exact j2 i (by omega)
      · refine Or.inr ⟨fun j hj => ?_, h2⟩
        cases j with
        | zero => exact c
        | succ j => exact h1 j (by omega)
theorem far_sp (hg : GR se al n) (hn : 0 ≤ n ∧ n ≤ 24) {a b : Int} (ha : 0 ≤ a ∧ a < n) (hb : 0 ≤ b) : (∃ d : Nat, FAR se al n a b = d ∧ d ≤ 23 ∧ RT se al n d a b ∧ ∀ i : Nat, RT se al n i a b → d ≤ i) ∨ (FAR se al n a b = -1 ∧ ∀ i : Nat, ¬ RT se al n i a b) := by
  rcases fs_sp (se := se) (al := al) (n := n) b.toNat 24 (2 ^ a.toNat) 0 with ⟨j, j0, j1, j2, j3⟩ | ⟨h1, h2⟩
  · exact Or.inl ⟨j, j3.trans (Int.zero_add _), by omega, j1, fun i hi => Nat.le_of_not_lt fun z => j2 i z hi⟩
  · exact Or.inr ⟨h2, fun i hi => h1 23 (by decide) (rt_23 hg hn ha hb hi)⟩
theorem far_r (hg : GR se al n) (hn : 0 ≤ n ∧ n ≤ 24) {a b : Int} (ha : 0 ≤ a ∧ a < n) (hb : 0 ≤ b) : -1 ≤ FAR se al n a b ∧ FAR se al n a b ≤ 23 := by
  rcases far_sp hg hn ha hb with ⟨d, d0, d1, -⟩ | ⟨d0, -⟩ <;> omega
theorem far_ge (hg : GR se al n) (hn : 0 ≤ n ∧ n ≤ 24) {a b : Int} (ha : 0 ≤ a ∧ a < n) (hb : 0 ≤ b) {t : Nat} (h : RT se al n t a b) : 0 ≤ FAR se al n a b ∧ FAR se al n a b ≤ t := by
  rcases far_sp hg hn ha hb with ⟨d, d0, d1, d2, d3⟩ | ⟨d0, d1⟩
  · have w := d3 t h; omega
  · exact absurd h (d1 t)
theorem far_rt (hg : GR se al n) (hn : 0 ≤ n ∧ n ≤ 24) {a b : Int} (ha : 0 ≤ a ∧ a < n) (hb : 0 ≤ b) : 0 ≤ FAR se al n a b ↔ RT se al n 24 a b := by
  constructor
  · intro h
    rcases far_sp hg hn ha hb with ⟨d, d0, d1, d2, d3⟩ | ⟨d0, d1⟩
    · have w := rt_m hg hb d2 (24 - d)
      rwa [show d + (24 - d) = 24 by omega] at w
    · omega
  · exact fun h => (far_ge hg hn ha hb h).1
theorem far_0 (hg : GR se al n) (hn : 0 ≤ n ∧ n ≤ 24) {a b : Int} (ha : 0 ≤ a ∧ a < n) (hb : 0 ≤ b) : FAR se al n a b = 0 ↔ a = b := by
  rcases far_sp hg hn ha hb with ⟨d, d0, d1, d2, d3⟩ | ⟨d0, d1⟩
  · constructor
    · intro h
      rw [show d = 0 by omega] at d2
      exact (rt_0 ha.1 hb).mp d2
    · intro h
      have w := d3 0 ((rt_0 ha.1 hb).mpr h)
      omega
  · exact ⟨fun h => by omega, fun h => absurd ((rt_0 (se := se) (al := al) (n := n) ha.1 hb).mpr h) (d1 0)⟩
theorem rt_1 (hg : GR se al n) {a b : Int} (ha : 0 ≤ a ∧ a < n) (hb : 0 ≤ b ∧ b < n) (h : STP se al a b) : RT se al n 1 a b := (rt_l hg ha 0 b hb).mpr (Or.inr ⟨b, hb.1, hb.2, h, rt_r hg hb.1 0⟩)
theorem far_1 (hg : GR se al n) (hn : 0 ≤ n ∧ n ≤ 24) {a b : Int} (ha : 0 ≤ a ∧ a < n) (hb : 0 ≤ b ∧ b < n) (hab : a ≠ b) : FAR se al n a b = 1 ↔ STP se al a b := by
  constructor
  · intro h
    rcases far_sp hg hn ha hb.1 with ⟨d, d0, d1, d2, d3⟩ | ⟨d0, d1⟩
    · rw [show d = 0 + 1 by omega] at d2
      rcases (rt_l hg ha 0 b hb).mp d2 with e | ⟨c, c0, c1, c2, c3⟩
      · exact absurd e hab
      · have e := (rt_0 c0 hb.1).mp c3
        subst e; exact c2
    · omega
  · intro h
    have w := far_ge hg hn ha hb.1 (rt_1 hg ha hb h)
    have v : FAR se al n a b ≠ 0 := fun z => hab ((far_0 hg hn ha hb.1).mp z)
    omega
theorem rch_c (hg : GR se al n) (hn : 0 ≤ n ∧ n ≤ 24) {a : Int} (ha : 0 ≤ a ∧ a < n) : smI (fun b => pI (0 ≤ FAR se al n a b)) n.toNat = RCH se al n a := by
  show _ = ((pop (itS se al n 24 (2 ^ a.toNat)) 24 : Nat) : Int)
  rw [pop_n hn (itS_lt hg hn.1 24 _ (pw_n ha))]
  exact smI_c (fun b b0 b1 => pI_c (far_rt hg hn ha b0))
theorem it_uni (hg : GR se al n) (m : Nat) : ∀ (t : Nat) {i : Int}, 0 ≤ i → ((itS se al n t m).testBit i.toNat = true ↔ ∃ c : Int, 0 ≤ c ∧ m.testBit c.toNat = true ∧ RT se al n t c i)
  | 0, i, hi => by
    show m.testBit i.toNat = true ↔ _
    constructor
    · exact fun h => ⟨i, hi, h, rt_r hg hi 0⟩
    · rintro ⟨c, c0, c1, c2⟩
      have e := (rt_0 c0 hi).mp c2
      subst e; exact c1
  | t + 1, i, hi => by
    rw [it_bit hg t m hi, it_uni hg m t hi]
    constructor
    · rintro (⟨c, c0, c1, c2⟩ | ⟨z, z0, z1, z2, z3⟩)
      · exact ⟨c, c0, c1, (rt_s hg hi).mpr (Or.inl c2)⟩
      · obtain ⟨c, c0, c1, c2⟩ := (it_uni hg m t z0).mp z2
        exact ⟨c, c0, c1, (rt_s hg hi).mpr (Or.inr ⟨z, z0, z1, c2, z3⟩)⟩
    · rintro ⟨c, c0, c1, c2⟩
      rcases (rt_s hg hi).mp c2 with h | ⟨z, z0, z1, z2, z3⟩
      · exact Or.inl ⟨c, c0, c1, h⟩
      · exact Or.inr ⟨z, z0, z1, (it_uni hg m t z0).mpr ⟨c, c0, c1, z2⟩, z3⟩
theorem rng_c (hg : GR se al n) (hn : 0 ≤ n ∧ n ≤ 24) {a : Int} (ha : 0 ≤ a ∧ a < n) : RNG se al n a ↔ ∃ c : Int, 0 ≤ c ∧ c < n ∧ STP se al a c ∧ 0 ≤ FAR se al n c a := by
  show (itS se al n 24 (stS se al (2 ^ a.toNat) n.toNat)).testBit a.toNat = true ↔ _
  rw [it_uni hg _ 24 ha.1]
  constructor
  · rintro ⟨c, c0, c1, c2⟩
    obtain ⟨z, z0, z1, z2, z3⟩ := (sts_bit hg _ c0).mp c1
    have e := (rt_0 (se := se) (al := al) (n := n) ha.1 z0).mp z2
    subst e
    have cn : c < n := by
      apply Classical.byContradiction
      intro q
      have w := stS_lt hg (2 ^ a.toNat) n.toNat (by omega)
      have v := Nat.testBit_lt_two_pow (Nat.lt_of_lt_of_le w (Nat.pow_le_pow_right (show 0 < 2 by decide) (show n.toNat ≤ c.toNat by omega)))
      rw [v] at c1
      cases c1
    exact ⟨c, c0, cn, z3, (far_rt hg hn ⟨c0, cn⟩ ha.1).mpr c2⟩
  · rintro ⟨c, c0, c1, c2, c3⟩
    exact ⟨c, c0, (sts_bit hg _ c0).mpr ⟨a, ha.1, ha.2, rt_r hg ha.1 0, c2⟩, (far_rt hg hn ⟨c0, c1⟩ ha.1).mp c3⟩
/-- the least way by those before c -/
def LEA (se : Int → Int) (al : Int → Nat) (n a b c le : Int) : Prop := (le = 99 ∧ ∀ x : Int, 0 ≤ x → x < c → ¬ (STP se al a x ∧ 0 ≤ FAR se al n x b)) ∨ ((∃ x : Int, 0 ≤ x ∧ x < n ∧ STP se al a x ∧ 0 ≤ FAR se al n x b ∧ le = 1 + FAR se al n x b) ∧ ∀ x : Int, 0 ≤ x → x < c → STP se al a x → 0 ≤ FAR se al n x b → le ≤ 1 + FAR se al n x b)
theorem lea_0 {a b : Int} : LEA se al n a b 0 99 := Or.inl ⟨rfl, fun x h0 h1 => by omega⟩
theorem lea_r (hg : GR se al n) (hn : 0 ≤ n ∧ n ≤ 24) {a b c le : Int} (hb : 0 ≤ b) (h : LEA se al n a b c le) : 1 ≤ le ∧ le ≤ 99 ∧ (le < 99 → le ≤ 24) := by
  rcases h with ⟨h, -⟩ | ⟨⟨x, x0, x1, x2, x3, x4⟩, -⟩
  · omega
  · have w := far_r hg hn ⟨x0, x1⟩ hb; omega
theorem lea_n {a b c le : Int} (h : LEA se al n a b c le) (hs : ¬ (STP se al a c ∧ 0 ≤ FAR se al n c b)) : LEA se al n a b (c + 1) le := by
  rcases h with ⟨h, h2⟩ | ⟨h, h2⟩
  · refine Or.inl ⟨h, fun x x0 x1 => ?_⟩
    by_cases e : x = c
    · rw [e]; exact hs
    · exact h2 x x0 (by omega)
  · refine Or.inr ⟨h, fun x x0 x1 x2 x3 => ?_⟩
    by_cases e : x = c
    · subst e; exact absurd ⟨x2, x3⟩ hs
    · exact h2 x x0 (by omega) x2 x3
theorem lea_y (hg : GR se al n) (hn : 0 ≤ n ∧ n ≤ 24) {a b c le : Int} (h : LEA se al n a b c le) (hb : 0 ≤ b) (hc : 0 ≤ c ∧ c < n) (hs : STP se al a c) (hf : 0 ≤ FAR se al n c b) : LEA se al n a b (c + 1) (min le (1 + FAR se al n c b)) := by
  have w := far_r hg hn hc hb
  rcases h with ⟨h, h2⟩ | ⟨⟨y, y0, y1, y2, y3, y4⟩, h2⟩
  · refine Or.inr ⟨⟨c, hc.1, hc.2, hs, hf, by omega⟩, fun x x0 x1 x2 x3 => ?_⟩
    by_cases e : x = c
    · subst e; omega
    · exact absurd ⟨x2, x3⟩ (h2 x x0 (by omega))
  · refine Or.inr ⟨?_, fun x x0 x1 x2 x3 => ?_⟩
    · by_cases e : le ≤ 1 + FAR se al n c b
      · exact ⟨y, y0, y1, y2, y3, by omega⟩
      · exact ⟨c, hc.1, hc.2, hs, hf, by omega⟩
    · by_cases e : x = c
      · subst e; omega
      · have v := h2 x x0 (by omega) x2 x3; omega
theorem lea_e (hg : GR se al n) (hn : 0 ≤ n ∧ n ≤ 24) {a b le : Int} (h : LEA se al n a b n le) (ha : 0 ≤ a ∧ a < n) (hb : 0 ≤ b ∧ b < n) (hab : a ≠ b) : FAR se al n a b = if le = 99 then -1 else le := by
  have st : ∀ x : Int, 0 ≤ x → x < n → STP se al a x → 0 ≤ FAR se al n x b → 0 ≤ FAR se al n a b ∧ FAR se al n a b ≤ 1 + FAR se al n x b := by
    intro x x0 x1 x2 x3
    rcases far_sp hg hn ⟨x0, x1⟩ hb.1 with ⟨d, d0, d1, d2, d3⟩ | ⟨d0, d1⟩
    · have v := far_ge hg hn ha hb.1 ((rt_l hg ha d b hb).mpr (Or.inr ⟨x, x0, x1, x2, d2⟩))
      omega
    · omega
  have ts : 0 ≤ FAR se al n a b → ∃ x : Int, 0 ≤ x ∧ x < n ∧ STP se al a x ∧ 0 ≤ FAR se al n x b ∧ 1 + FAR se al n x b ≤ FAR se al n a b := by
    intro h0
    rcases far_sp hg hn ha hb.1 with ⟨d, d0, d1, d2, d3⟩ | ⟨d0, d1⟩
    · cases d with
      | zero => exact absurd ((far_0 hg hn ha hb.1).mp d0) hab
      | succ d =>
        rcases (rt_l hg ha d b hb).mp d2 with e | ⟨c, c0, c1, c2, c3⟩
        · exact absurd e hab
        · have v := far_ge hg hn ⟨c0, c1⟩ hb.1 c3
          exact ⟨c, c0, c1, c2, v.1, by omega⟩
    · omega
  rcases h with ⟨h, h2⟩ | ⟨⟨y, y0, y1, y2, y3, y4⟩, h2⟩
  · rw [if_pos h]
    have r := far_r hg hn ha hb.1
    apply Classical.byContradiction
    intro q
    obtain ⟨x, x0, x1, x2, x3, -⟩ := ts (by omega)
    exact h2 x x0 x1 ⟨x2, x3⟩
  · have r := far_r hg hn ⟨y0, y1⟩ hb.1
    rw [if_neg (by omega)]
    have v := st y y0 y1 y2 y3
    obtain ⟨x, x0, x1, x2, x3, x4⟩ := ts v.1
    have u := h2 x x0 x1 x2 x3
    omega
/-! sees and ways -/
theorem eS_rt (hg : GR se al n) : ∀ (t : Nat) (x : Int), 0 ≤ x ∧ x < n → 0 ≤ eS se t x → RT se al n t x (eS se t x)
  | 0, x, hx, h => absurd (show (0 : Int) ≤ -1 from h) (by decide)
  | t + 1, x, hx, h => by
    have e : eS se (t + 1) x = if se x = -1 then x else eS se t (se x) := rfl
    by_cases c : se x = -1
    · rw [e, if_pos c]; exact rt_r hg hx.1 _
    · rw [e, if_neg c] at h ⊢
      have g := hg.1 x hx.1 hx.2
      have r := eS_rng hg.1 t (se x) (by omega) g.2
      exact (rt_l hg hx t _ (by omega)).mpr (Or.inr ⟨se x, by omega, g.2, Or.inl rfl, eS_rt hg t (se x) (by omega) h⟩)
theorem eS_far (hg : GR se al n) (hn : 0 ≤ n ∧ n ≤ 24) {a : Int} (ha : 0 ≤ a ∧ a < n) (h : 0 ≤ eS se n.toNat a) : 0 ≤ FAR se al n a (eS se n.toNat a) := (far_ge hg hn ha h (eS_rt hg _ a ha h)).1
theorem eS_two (hg : GR se al n) (hn : 0 ≤ n ∧ n ≤ 24) {a : Int} (ha : 0 ≤ a ∧ a < n) (hne : se a ≠ a) (h : eS se n.toNat a < 0) : 2 ≤ RCH se al n a := by
  have c : se a ≠ -1 := fun z => by rw [eS_self ha z] at h; omega
  have g := hg.1 a ha.1 ha.2
  have r1 : RT se al n 24 a (se a) := rt_m hg (by omega) (rt_1 hg ha (by omega) (Or.inl rfl)) 23
  have w := pop_lt (a := 2 ^ a.toNat) (b := itS se al n 24 (2 ^ a.toNat)) (j := (se a).toNat) (fun i hi => by
    rw [Nat.testBit_two_pow] at hi
    have e : a.toNat = i := by simpa using hi
    rw [← e]
    exact rt_r hg ha.1 24) r1 (fun z => by
      rw [Nat.testBit_two_pow] at z
      have e : a.toNat = (se a).toNat := by simpa using z
      omega) 24 (by omega)
  have v := pw_pop hn ha
  show (2 : Int) ≤ ((pop (itS se al n 24 (2 ^ a.toNat)) 24 : Nat) : Int)
  omega
theorem unl_c (hg : GR se al n) (hn : 0 ≤ n ∧ n ≤ 24) : n - smI (fun i => pI (LED se al n i)) n.toNat = UNL se al n := by
  have w := unl_eq (P := fun i => LED se al n i) hg hn (fun i _ _ => Iff.rfl)
  rw [← w, smI_not, show ((n.toNat : Nat) : Int) = n by omega]
end RTs
/-! the nearest -/
theorem nr_sp {c : Int → Int} : ∀ n : Nat, (nrS c n = (-1, 0) ∧ ∀ k : Int, 0 ≤ k → k < n → c k ≤ 0) ∨ (0 ≤ (nrS c n).1 ∧ (nrS c n).1 < n ∧ 0 < (nrS c n).2 ∧ c (nrS c n).1 = (nrS c n).2 ∧ ∀ k : Int, 0 ≤ k → k < n → c k ≤ (nrS c n).2)
  | 0 => Or.inl ⟨rfl, fun k h0 h1 => by omega⟩
  | n + 1 => by
    have e : nrS c (n + 1) = if (nrS c n).2 < c n then ((n : Int), c n) else nrS c n := rfl
    rw [e]
    have w := nr_sp (c := c) n
    by_cases k : (nrS c n).2 < c n
    · rw [if_pos k]
      refine Or.inr ⟨by show (0 : Int) ≤ n; omega, by show (n : Int) < ((n + 1 : Nat) : Int); omega, ?_, rfl, fun j j0 j1 => ?_⟩
      · show 0 < c n
        rcases w with ⟨w, -⟩ | ⟨-, -, w, -⟩
        · rw [w] at k; exact k
        · omega
      · show c j ≤ c n
        by_cases ej : j = n
        · rw [ej]; exact Int.le_refl _
        · rcases w with ⟨w, v⟩ | ⟨-, -, -, -, v⟩
          · have q := v j j0 (by omega)
            rw [w] at k
            have k2 : 0 < c n := k
            omega
          · have q := v j j0 (by omega); omega
    · rw [if_neg k]
      rcases w with ⟨w, v⟩ | ⟨w0, w1, w2, w3, v⟩
      · refine Or.inl ⟨w, fun j j0 j1 => ?_⟩
        by_cases ej : j = n
        · rw [w] at k
          have k2 : ¬ 0 < c n := k
          rw [ej]; omega
        · exact v j j0 (by omega)
      · refine Or.inr ⟨w0, by omega, w2, w3, fun j j0 j1 => ?_⟩
        by_cases ej : j = n
        · rw [ej]; omega
        · exact v j j0 (by omega)
theorem near_sp {sp : Int → SpT} {n pg u : Int} (hs : SPV sp n pg) (hp : 0 ≤ pg) (hn : 0 ≤ n) (hu : 0 ≤ u ∧ u < n) : (NEAR sp n u = -1 ∧ ∀ o : Int, 0 ≤ o → o < n → o ≠ u → COM sp pg u o ≤ 0) ∨ (0 ≤ NEAR sp n u ∧ NEAR sp n u < n ∧ NEAR sp n u ≠ u ∧ 0 < COM sp pg u (NEAR sp n u) ∧ ∀ o : Int, 0 ≤ o → o < n → o ≠ u → COM sp pg u o ≤ COM sp pg u (NEAR sp n u)) := by
  have e : NEAR sp n u = (nrS (fun o => if o = u then 0 else COM sp pg u o) n.toNat).1 := by
    show (nrS _ n.toNat).1 = _
    rw [nrS_c (g := fun o => if o = u then 0 else COM sp pg u o) (fun k k0 k1 => ?_)]
    show (if k = u then 0 else pic (sp u) (sp k) ((sp u).1 + (sp k).1).toNat 0 0 0) = if k = u then 0 else COM sp pg u k
    by_cases c : k = u
    · rw [if_pos c, if_pos c]
    · rw [if_neg c, if_neg c, pic_all (hs u hu.1 hu.2).1 (hs k k0 (by omega)).1 hp]
  rw [e]
  rcases nr_sp (c := fun o => if o = u then 0 else COM sp pg u o) n.toNat with ⟨w, v⟩ | ⟨w0, w1, w2, w3, v⟩
  · refine Or.inl ⟨by rw [w], fun o o0 o1 o2 => ?_⟩
    have q : (if o = u then 0 else COM sp pg u o) ≤ 0 := v o o0 (by omega)
    rwa [if_neg o2] at q
  · have w3' : (if (nrS (fun o => if o = u then 0 else COM sp pg u o) n.toNat).1 = u then 0 else COM sp pg u (nrS (fun o => if o = u then 0 else COM sp pg u o) n.toNat).1) = (nrS (fun o => if o = u then 0 else COM sp pg u o) n.toNat).2 := w3
    by_cases c : (nrS (fun o => if o = u then 0 else COM sp pg u o) n.toNat).1 = u
    · rw [if_pos c] at w3'; omega
    · rw [if_neg c] at w3'
      refine Or.inr ⟨w0, by omega, c, by omega, fun o o0 o1 o2 => ?_⟩
      have q : (if o = u then 0 else COM sp pg u o) ≤ _ := v o o0 (by omega)
      rw [if_neg o2] at q
      omega
/-! a page put in and taken out -/
theorem in_out {sp : Int → SpT} {se : Int → Int} {al : Int → Nat} {n pg q : Int} (J : JV sp se al n pg) (hq : 1 ≤ q ∧ q ≤ pg + 1) : ∀ i : Int, 0 ≤ i → i < n → VL (sp i) (pg + 1 - 1) ∧ ∀ r, cov (sp i) r ↔ cov ((fun i => mvd (sp i) q 1 (sp i).1) i) (if r < q then r else r + 1) := by
  intro i i0 i1
  refine ⟨by rw [show pg + 1 - 1 = pg by omega]; exact (J.hsp i i0 i1).1, fun r => ?_⟩
  show _ ↔ cov (mvd (sp i) q 1 (sp i).1) _
  rw [(mvd_vl (J.hsp i i0 i1).1 hq (by decide)).2]
  by_cases c : r < q
  · rw [if_pos c, if_pos c]
  · rw [if_neg c, if_neg (by omega), if_neg (by omega), show r + 1 - 1 = r by omega]
theorem upI_2 {α : Type} (f : Int → α) (k : Int) (v w : α) : upI (upI f k v) k w = upI f k w := by
  funext j
  simp only [upI_at]
  by_cases c : j = k
  · rw [if_pos c, if_pos c]
  · rw [if_neg c, if_neg c, if_neg c]
