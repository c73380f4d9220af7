/-! THE ROWS OF PAGES AND THE SPANS -/
def RPS (on : Int → Int) (sp : Int → SpT) (n : Int) : Prop := ∀ h : Int, 0 ≤ h → h < n → ∀ q : Int, 0 ≤ q → q ≤ 301 → (on (302 * h + q) = 1 ↔ cov (sp h) q)
theorem pgs_ge {g : SpT} {pg : Int} (hv : VL g pg) : g.1 ≤ PGS g := by
  have k : ∀ z : Int, 0 ≤ z → z ≤ g.1 → z ≤ smI (fun k => g.2.2 k - g.2.1 k + 1) z.toNat := by
    refine nat_ind (fun _ => Int.le_refl _) ?_
    intro z hz ih h1
    have w := hv.2.2.1 z hz (by omega)
    have i := ih (by omega)
    rw [smI_s _ hz]
    omega
  exact k g.1 hv.1 (Int.le_refl _)
theorem pgs_0 {g : SpT} {pg : Int} (hv : VL g pg) : PGS g = 0 ↔ g.1 = 0 := by
  have h := pgs_ge hv
  have h0 := hv.1
  exact ⟨fun z => by omega, fun z => by show smI _ g.1.toNat = 0; rw [z]; rfl⟩
section RLS
variable {on : Int → Int} {sp : Int → SpT} {n pg : Int}
theorem rl_pI (hr : RPS on sp n) (hon : ∀ k, on k = 0 ∨ on k = 1) {h q : Int} (hh : 0 ≤ h ∧ h < n) (hq : 0 ≤ q ∧ q ≤ 301) : on (302 * h + q) = pI (cov (sp h) q) := by
  by_cases c : cov (sp h) q
  · rw [pI_t c]; exact (hr h hh.1 hh.2 q hq.1 hq.2).mpr c
  · rw [pI_f c]; rcases hon (302 * h + q) with z | z
    · exact z
    · exact absurd ((hr h hh.1 hh.2 q hq.1 hq.2).mp z) c
theorem rl_spans (hr : RPS on sp n) (hp : pg ≤ 300) {a b gap : Int} (ha : 0 ≤ a ∧ a < n) (hb : 0 ≤ b ∧ b < n) : (spS (fun x => on (302 * a + x) = 1 ∨ on (302 * b + x) = 1) gap pg.toNat).1 = (spS (fun q => cov (sp a) q ∨ cov (sp b) q) gap pg.toNat).1 :=
  congrArg Prod.fst (spS_c (fun q q0 q1 => or_congr (hr a ha.1 ha.2 q (by omega) (by omega)) (hr b hb.1 hb.2 q (by omega) (by omega))))
theorem rl_spans1 (hr : RPS on sp n) (hp : pg ≤ 300) {a gap : Int} (ha : 0 ≤ a ∧ a < n) : (spS (fun x => on (302 * a + x) = 1 ∨ on (302 * a + x) = 1) gap pg.toNat).1 = (spS (cov (sp a)) gap pg.toNat).1 :=
  congrArg Prod.fst (spS_c (fun q q0 q1 => (or_self_iff).trans (hr a ha.1 ha.2 q (by omega) (by omega))))
theorem rl_spans0 (hr : RPS on sp n) (hs : SPV sp n pg) (hp : 0 ≤ pg ∧ pg ≤ 300) {a : Int} (ha : 0 ≤ a ∧ a < n) : (spS (fun x => on (302 * a + x) = 1 ∨ on (302 * a + x) = 1) 0 pg.toNat).1 = (sp a).1 := by
  rw [rl_spans1 hr hp.2 ha]; exact (vl_ns (hs a ha.1 ha.2).1 hp.1).symm
theorem rl_many (hr : RPS on sp n) (hs : SPV sp n pg) (hon : ∀ k, on k = 0 ∨ on k = 1) (hp : 0 ≤ pg ∧ pg ≤ 300) {a : Int} (ha : 0 ≤ a ∧ a < n) : smI (fun k => on (302 * a + (k + 1))) pg.toNat = PGS (sp a) := by
  rw [show PGS (sp a) = _ from pg_sum (hs a ha.1 ha.2).1 hp.1]
  exact smI_c (fun k k0 k1 => rl_pI hr hon ha (by omega))
theorem rl_common (hr : RPS on sp n) (hp : pg ≤ 300) {a b : Int} (ha : 0 ≤ a ∧ a < n) (hb : 0 ≤ b ∧ b < n) : smI (fun k => pI (on (302 * a + (k + 1)) = 1 ∧ on (302 * b + (k + 1)) = 1)) pg.toNat = smI (fun r => pI (cov (sp a) (r + 1) ∧ cov (sp b) (r + 1))) pg.toNat :=
  smI_c (fun k k0 k1 => pI_c (and_congr (hr a ha.1 ha.2 (k + 1) (by omega) (by omega)) (hr b hb.1 hb.2 (k + 1) (by omega) (by omega))))
theorem rl_near (hr : RPS on sp n) (hs : SPV sp n pg) (hp : 0 ≤ pg ∧ pg ≤ 300) {u : Int} (hu : 0 ≤ u ∧ u < n) : (nrS (fun o => if o = u then 0 else smI (fun k => pI (on (302 * u + (k + 1)) = 1 ∧ on (302 * o + (k + 1)) = 1)) pg.toNat) n.toNat).1 = NEAR sp n u := by
  refine congrArg Prod.fst (nrS_c (fun o o0 o1 => ?_))
  show ite _ _ _ = ite _ _ _
  by_cases c : o = u
  · rw [if_pos c, if_pos c]
  · rw [if_neg c, if_neg c, rl_common hr hp.2 hu (by omega)]
    exact (pic_all (hs u hu.1 hu.2).1 (hs o o0 (by omega)).1 hp.1).symm
theorem rl_onPage (hr : RPS on sp n) (hon : ∀ k, on k = 0 ∨ on k = 1) {q : Int} (hq : 0 ≤ q ∧ q ≤ 301) : smI (fun o => on (302 * o + q)) n.toNat = CHN sp n q :=
  smI_c (fun o o0 o1 => rl_pI hr hon (by omega) hq)
theorem rl_bare (hr : RPS on sp n) (hon : ∀ k, on k = 0 ∨ on k = 1) (hp : pg ≤ 300) : smI (fun k => pI (smI (fun o => on (302 * o + (k + 1))) n.toNat = 0)) pg.toNat = BARE sp n pg :=
  smI_c (fun k k0 k1 => by rw [rl_onPage hr hon (q := k + 1) (by omega)])
theorem rl_full (hr : RPS on sp n) (hon : ∀ k, on k = 0 ∨ on k = 1) (hp : 1 ≤ pg ∧ pg ≤ 300) : flS (fun q => smI (fun o => on (302 * o + q)) n.toNat) (pg - 1).toNat = FULL sp n pg :=
  (flS_c (fun k k0 k1 => rl_onPage hr hon (by omega))).1
theorem rl_vain {se : Int → Int} {al : Int → Nat} (hr : RPS on sp n) (hs : SPV sp n pg) (hon : ∀ k, on k = 0 ∨ on k = 1) (hp : 0 ≤ pg ∧ pg ≤ 300) (hn : 0 ≤ n ∧ n ≤ 24) (hg : GR se al n) : smI (fun h => pI ((fun h => se h ≠ -1 ∧ (eS se (n + 1).toNat h = -1 ∨ smI (fun k => on (302 * eS se (n + 1).toNat h + (k + 1))) pg.toNat = 0)) h)) n.toNat = VAIN sp se n := by
  refine smI_c (fun h h0 h1 => pI_c (and_congr Iff.rfl ?_))
  show eS se (n + 1).toNat h = -1 ∨ smI (fun k => on (302 * eS se (n + 1).toNat h + (k + 1))) pg.toNat = 0 ↔ _
  rw [eS_one hn hg.1 (x := h) (by omega)]
  by_cases c : eS se n.toNat h = -1
  · exact ⟨fun _ => Or.inl c, fun _ => Or.inl c⟩
  · have z := (eS_rng hg.1 n.toNat h h0 (by omega)).resolve_left c
    rw [rl_many hr hs hon hp z, pgs_0 (hs _ z.1 z.2).1]
theorem rl_alone {se : Int → Int} {al : Int → Nat} : n - ((pop (rS se al n n.toNat) 24 : Nat) : Int) = UNL se al n := by
  show _ = n - ((pop (stS se al (2 ^ n.toNat - 1) n.toNat) 24 : Nat) : Int)
  rw [rS_all]
/-- the row with some pages on, or off -/
theorem rl_withOn (hr : RPS on sp n) (hp : pg ≤ 300) {h fr to : Int} (hh : 0 ≤ h ∧ h < n) (hf : 1 ≤ fr) (h00 : ¬ cov (sp h) 0) : smI (fun k => pI ((fun x => (fr ≤ x ∧ x ≤ to ∧ (1 : Int) = 1) ∨ (¬ (fr ≤ x ∧ x ≤ to) ∧ on (302 * h + x) = 1)) (k + 1) ∧ ¬ (fun x => (fr ≤ x ∧ x ≤ to ∧ (1 : Int) = 1) ∨ (¬ (fr ≤ x ∧ x ≤ to) ∧ on (302 * h + x) = 1)) k)) pg.toNat = (spS (fun q => cov (sp h) q ∨ (fr ≤ q ∧ q ≤ to)) 0 pg.toNat).1 := by
  rw [re_sp (P := fun x => (fr ≤ x ∧ x ≤ to ∧ (1 : Int) = 1) ∨ (¬ (fr ≤ x ∧ x ≤ to) ∧ on (302 * h + x) = 1)) (fun z => z.elim (fun z => by omega) (fun z => h00 ((hr h hh.1 hh.2 0 (by decide) (by decide)).mp z.2)))]
  refine congrArg Prod.fst (spS_c (fun q q0 q1 => ?_))
  have e := hr h hh.1 hh.2 q (by omega) (by omega)
  show (fr ≤ q ∧ q ≤ to ∧ (1 : Int) = 1) ∨ (¬ (fr ≤ q ∧ q ≤ to) ∧ on (302 * h + q) = 1) ↔ _
  rw [e]
  by_cases c : fr ≤ q ∧ q ≤ to
  · exact ⟨fun _ => Or.inr c, fun _ => Or.inl ⟨c.1, c.2, rfl⟩⟩
  · exact ⟨fun z => z.elim (fun z => (c ⟨z.1, z.2.1⟩).elim) (fun z => Or.inl z.2), fun z => z.elim (fun z => Or.inr ⟨c, z⟩) (fun z => (c z).elim)⟩
theorem rl_withOff (hr : RPS on sp n) (hp : pg ≤ 300) {h fr to : Int} (hh : 0 ≤ h ∧ h < n) (h00 : ¬ cov (sp h) 0) : smI (fun k => pI ((fun x => (fr ≤ x ∧ x ≤ to ∧ (0 : Int) = 1) ∨ (¬ (fr ≤ x ∧ x ≤ to) ∧ on (302 * h + x) = 1)) (k + 1) ∧ ¬ (fun x => (fr ≤ x ∧ x ≤ to ∧ (0 : Int) = 1) ∨ (¬ (fr ≤ x ∧ x ≤ to) ∧ on (302 * h + x) = 1)) k)) pg.toNat = (spS (fun q => cov (sp h) q ∧ ¬ (fr ≤ q ∧ q ≤ to)) 0 pg.toNat).1 := by
  rw [re_sp (P := fun x => (fr ≤ x ∧ x ≤ to ∧ (0 : Int) = 1) ∨ (¬ (fr ≤ x ∧ x ≤ to) ∧ on (302 * h + x) = 1)) (fun z => z.elim (fun z => by omega) (fun z => h00 ((hr h hh.1 hh.2 0 (by decide) (by decide)).mp z.2)))]
  refine congrArg Prod.fst (spS_c (fun q q0 q1 => ?_))
  have e := hr h hh.1 hh.2 q (by omega) (by omega)
  show (fr ≤ q ∧ q ≤ to ∧ (0 : Int) = 1) ∨ (¬ (fr ≤ q ∧ q ≤ to) ∧ on (302 * h + q) = 1) ↔ _
  rw [e]
  exact ⟨fun z => z.elim (fun z => absurd z.2.2 (by decide)) (fun z => ⟨z.2, z.1⟩), fun z => Or.inr ⟨z.2, z.1⟩⟩
theorem cov_out {g : SpT} {q : Int} (hv : VL g pg) (hq : q < 1 ∨ pg < q) : ¬ cov g q := fun ⟨k, k0, k1, k2, k3⟩ => by have w := hv.2.2.1 k k0 k1; omega
end RLS
/-! ROWS THAT ARE WRITTEN -/
def ptO (f : Int → Int) (a b v : Int) : Int → Int := fun k => if a ≤ k ∧ k ≤ b then v else f k
def shO (f : Int → Int) (a b m : Int) : Int → Int := fun k => if a ≤ k ∧ k ≤ b then f (k - m) else f k
theorem ptO_0 (f : Int → Int) {a b : Int} (v : Int) (h : b < a) : ptO f a b v = f := funext fun k => if_neg (by omega)
theorem ptO_s (f : Int → Int) {a b : Int} (v : Int) (h : a ≤ b + 1) : upI (ptO f a b v) (b + 1) v = ptO f a (b + 1) v := by
  funext k
  rw [upI_if]
  show ite _ _ (ite _ _ _) = ite _ _ _
  by_cases c : k = b + 1
  · rw [if_pos c, if_pos (by omega)]
  · rw [if_neg c]
    by_cases d : a ≤ k ∧ k ≤ b
    · rw [if_pos d, if_pos (by omega)]
    · rw [if_neg d, if_neg (by omega)]
theorem shO_0 (f : Int → Int) {a b : Int} (m : Int) (h : b < a) : shO f a b m = f := funext fun k => if_neg (by omega)
theorem shO_d (f : Int → Int) {a b m : Int} (h : a ≤ b + 1) : upI (shO f a b m) (a - 1) (f (a - 1 - m)) = shO f (a - 1) b m := by
  funext k
  rw [upI_if]
  show ite _ _ (ite _ _ _) = ite _ _ _
  by_cases c : k = a - 1
  · rw [if_pos c, c, if_pos (by omega)]
  · rw [if_neg c]
    by_cases d : a ≤ k ∧ k ≤ b
    · rw [if_pos d, if_pos (by omega)]
    · rw [if_neg d, if_neg (by omega)]
theorem shO_u (f : Int → Int) {a b m : Int} (h : a ≤ b + 1) : upI (shO f a b m) (b + 1) (f (b + 1 - m)) = shO f a (b + 1) m := by
  funext k
  rw [upI_if]
  show ite _ _ (ite _ _ _) = ite _ _ _
  by_cases c : k = b + 1
  · rw [if_pos c, c, if_pos (by omega)]
  · rw [if_neg c]
    by_cases d : a ≤ k ∧ k ≤ b
    · rw [if_pos d, if_pos (by omega)]
    · rw [if_neg d, if_neg (by omega)]
theorem ptO_01 {f : Int → Int} (hf : ∀ k, f k = 0 ∨ f k = 1) {a b v : Int} (hv : v = 0 ∨ v = 1) : ∀ k, ptO f a b v k = 0 ∨ ptO f a b v k = 1 := fun k => by
  show ite _ _ _ = _ ∨ ite _ _ _ = _
  split
  · exact hv
  · exact hf k
theorem shO_01 {f : Int → Int} (hf : ∀ k, f k = 0 ∨ f k = 1) {a b m : Int} : ∀ k, shO f a b m k = 0 ∨ shO f a b m k = 1 := fun k => by
  show ite _ _ _ = _ ∨ ite _ _ _ = _
  split
  · exact hf _
  · exact hf k
theorem upI_01 {f : Int → Int} (hf : ∀ k, f k = 0 ∨ f k = 1) {a v : Int} (hv : v = 0 ∨ v = 1) : ∀ k, upI f a v k = 0 ∨ upI f a v k = 1 := fun k => by
  rw [upI_if]
  split
  · exact hv
  · exact hf k
/-- the rows, one of them written -/
theorem rl_pt {on : Int → Int} {sp : Int → SpT} {n : Int} (hr : RPS on sp n) {u a b v : Int} (hu : 0 ≤ u ∧ u < n) (hab : 0 ≤ a ∧ b ≤ 301) {h : Int} (hh : 0 ≤ h ∧ h < n) {q : Int} (hq : 0 ≤ q ∧ q ≤ 301) :
    ptO on (302 * u + a) (302 * u + b) v (302 * h + q) = 1 ↔ (if h = u then (if a ≤ q ∧ q ≤ b then v = 1 else cov (sp u) q) else cov (sp h) q) := by
  show ite _ _ _ = _ ↔ _
  by_cases c : h = u
  · subst c
    rw [if_pos rfl]
    by_cases d : a ≤ q ∧ q ≤ b
    · rw [if_pos d, if_pos (by omega)]
    · rw [if_neg d, if_neg (by omega)]; exact hr h hh.1 hh.2 q hq.1 hq.2
  · rw [if_neg c, if_neg (by omega)]; exact hr h hh.1 hh.2 q hq.1 hq.2
theorem pt_row {on : Int → Int} {sp : Int → SpT} {n : Int} (hr : RPS on sp n) {u a b v : Int} (hu : 0 ≤ u ∧ u < n) (hab : 0 ≤ a ∧ b ≤ 301) {q : Int} (hq : 0 ≤ q ∧ q ≤ 301) :
    ptO on (302 * u + a) (302 * u + b) v (302 * u + q) = 1 ↔ (if a ≤ q ∧ q ≤ b then v = 1 else cov (sp u) q) :=
  (rl_pt hr hu hab hu hq).trans (by rw [if_pos rfl])
/-- the pages of a heading when mn pages are put in ahead of page q -/
def PM (g : SpT) (q mn r : Int) : Prop := if r < q then cov g r else if r < q + mn then cov g (q - 1) ∧ cov g q else cov g (r - mn)
theorem in_row {oo : Int → Int} {g : SpT} {o pg q mn v : Int} (hv : VL g pg) (hrow : ∀ r : Int, 0 ≤ r → r ≤ 301 → (oo (302 * o + r) = 1 ↔ cov g r)) (hq : 1 ≤ q ∧ q ≤ pg + 1 ∧ 1 ≤ mn ∧ pg + mn ≤ 300) (hvv : v = 1 ↔ cov g (q - 1) ∧ cov g q) (r : Int) (r0 : 0 ≤ r) (r1 : r ≤ 301) :
    ptO (shO oo (302 * o + (q - 1) + mn + 1) (302 * o + pg + mn) mn) (302 * o + q) (302 * o + (q + mn - 1)) v (302 * o + r) = 1 ↔ PM g q mn r := by
  show ite _ _ (ite _ _ _) = _ ↔ ite _ _ (ite _ _ _)
  by_cases c1 : r < q
  · rw [if_pos c1, if_neg (by omega), if_neg (by omega)]; exact hrow r r0 r1
  · rw [if_neg c1]
    by_cases c2 : r < q + mn
    · rw [if_pos c2, if_pos (by omega)]; exact hvv
    · rw [if_neg c2, if_neg (by omega)]
      by_cases c3 : r ≤ pg + mn
      · rw [if_pos (by omega), show 302 * o + r - mn = 302 * o + (r - mn) by omega]; exact hrow (r - mn) (by omega) (by omega)
      · rw [if_neg (by omega)]
        exact ⟨fun z => (cov_out hv (Or.inr (by omega)) ((hrow r r0 r1).mp z)).elim, fun z => (cov_out hv (Or.inr (by omega)) z).elim⟩
theorem in_off (oo : Int → Int) {o h pg q mn v r : Int} (hq : 1 ≤ q ∧ q ≤ pg + 1 ∧ 1 ≤ mn ∧ pg + mn ≤ 300) (hh : h ≠ o) (hr : 0 ≤ r ∧ r ≤ 301) :
    ptO (shO oo (302 * o + (q - 1) + mn + 1) (302 * o + pg + mn) mn) (302 * o + q) (302 * o + (q + mn - 1)) v (302 * h + r) = oo (302 * h + r) := by
  show ite _ _ (ite _ _ _) = _
  rw [if_neg (by omega), if_neg (by omega)]
theorem out_row {oo : Int → Int} {g : SpT} {o pg q : Int} (hv : VL g pg) (hrow : ∀ r : Int, 0 ≤ r → r ≤ 301 → (oo (302 * o + r) = 1 ↔ cov g r)) (hq : 1 ≤ q ∧ q ≤ pg ∧ pg ≤ 300) (r : Int) (r0 : 0 ≤ r) (r1 : r ≤ 301) :
    upI (shO oo (302 * o + q) (302 * o + pg - 1) (-1)) (302 * o + pg) 0 (302 * o + r) = 1 ↔ cov g (if r < q then r else r + 1) := by
  rw [upI_if]
  show ite _ _ (ite _ _ _) = _ ↔ _
  by_cases c1 : r < q
  · rw [if_pos c1, if_neg (by omega), if_neg (by omega)]; exact hrow r r0 r1
  · rw [if_neg c1]
    by_cases c2 : r < pg
    · rw [if_neg (by omega), if_pos (by omega), show 302 * o + r - -1 = 302 * o + (r + 1) by omega]; exact hrow (r + 1) (by omega) (by omega)
    · by_cases c3 : r = pg
      · rw [if_pos (by omega)]
        exact ⟨fun z => absurd z (by decide), fun z => (cov_out hv (Or.inr (by omega)) z).elim⟩
      · rw [if_neg (by omega), if_neg (by omega)]
        exact ⟨fun z => (cov_out hv (Or.inr (by omega)) ((hrow r r0 r1).mp z)).elim, fun z => (cov_out hv (Or.inr (by omega)) z).elim⟩
theorem out_off (oo : Int → Int) {o h pg q r : Int} (hq : 1 ≤ q ∧ q ≤ pg ∧ pg ≤ 300) (hh : h ≠ o) (hr : 0 ≤ r ∧ r ≤ 301) :
    upI (shO oo (302 * o + q) (302 * o + pg - 1) (-1)) (302 * o + pg) 0 (302 * h + r) = oo (302 * h + r) := by
  rw [upI_if]
  show ite _ _ (ite _ _ _) = _
  rw [if_neg (by omega), if_neg (by omega)]
theorem spS_b (P : Int → Prop) (gap : Int) : ∀ n : Nat, 0 ≤ (spS P gap n).1 ∧ (spS P gap n).1 ≤ n := by
  intro n
  induction n with
  | zero => exact ⟨Int.le_refl _, Int.le_refl _⟩
  | succ n ih =>
    by_cases c : P ((n : Int) + 1)
    · have e := spS_y (P := P) (gap := gap) (p := (n : Int) + 1) (m := (spS P gap n).1) (la := (spS P gap n).2) (by omega) c (by rw [show ((n : Int) + 1 - 1).toNat = n by omega])
      rw [show ((n : Int) + 1 + 1 - 1).toNat = n + 1 by omega] at e
      rw [e]
      show 0 ≤ ite _ _ _ ∧ ite _ _ _ ≤ _
      split <;> omega
    · have e := spS_n (P := P) (gap := gap) (p := (n : Int) + 1) (m := (spS P gap n).1) (la := (spS P gap n).2) (by omega) c (by rw [show ((n : Int) + 1 - 1).toNat = n by omega])
      rw [show ((n : Int) + 1 + 1 - 1).toNat = n + 1 by omega] at e
      rw [e]
      show 0 ≤ (spS P gap n).1 ∧ (spS P gap n).1 ≤ _
      omega
