/-! WORLDS THAT GROW, and what lies in them -/
theorem pr_f (a b : Int) : upI (upI (fun _ => (0 : Int)) 0 a) 1 b = (fun j : Int => if j = 0 then a else if j = 1 then b else 0) := by
  funext j
  by_cases c1 : j = 1
  · subst c1; rw [upI_s]; rfl
  · rw [upI_n _ _ c1]
    by_cases c0 : j = 0
    · subst c0; rw [upI_s]; rfl
    · rw [upI_n _ _ c0, if_neg c0, if_neg c1]
def pr (a b : Int) : Int → Int := fun j => if j = 0 then a else if j = 1 then b else 0
theorem pr_m (a b : Int) : upI (upI (fun _ => (0 : Int)) 0 a) 1 b = pr a b := pr_f a b
theorem pr_u0 (a b x : Int) : upI (pr a b) 0 x = pr x b := by
  funext j
  by_cases c0 : j = 0
  · subst c0; rw [upI_s]; rfl
  · rw [upI_n _ _ c0]
    show (if j = 0 then a else if j = 1 then b else 0) = (if j = 0 then x else if j = 1 then b else 0)
    rw [if_neg c0, if_neg c0]
theorem pr_u1 (a b x : Int) : upI (pr a b) 1 x = pr a x := by
  funext j
  by_cases c0 : j = 1
  · subst c0; rw [upI_s]; rfl
  · rw [upI_n _ _ c0]
    show (if j = 0 then a else if j = 1 then b else 0) = (if j = 0 then a else if j = 1 then x else 0)
    by_cases c1 : j = 0
    · rw [if_pos c1, if_pos c1]
    · rw [if_neg c1, if_neg c1, if_neg c0, if_neg c0]
/-- a world that speaks of cells that are there -/
def LW (W : Heap → Prop) : Prop := ∀ H H1 : Heap, W H → H.size ≤ H1.size → (∀ q : Nat, q < H.size → H1[q]? = H[q]?) → W H1
theorem LW.and {W V : Heap → Prop} (h : LW W) (h2 : LW V) : LW (fun H => W H ∧ V H) := fun H H1 hw h1 hq => ⟨h H H1 hw.1 h1 hq, h2 H H1 hw.2 h1 hq⟩
theorem LW.at {D : va_G} {cl : List vw_C} {c : Nat × va_E} : LW (fun H => va_at D cl c H) := fun _ _ hw _ hq => hw.kept (hq _ hw.lt)
theorem KP.lw {z : Nat} {W : Heap → Prop} (h : KP z W) : LW (fun H => z ≤ H.size ∧ W H) := fun H H1 hw h1 hq => ⟨by omega, h H H1 hw.2 (by omega) (fun q h2 => hq q (by omega))⟩
/-- a world as it was when so many cells were there -/
def FZ (z : Nat) (W : Heap → Prop) (H : Heap) : Prop := ∃ H0 : Heap, H0.size = z ∧ W H0 ∧ z ≤ H.size ∧ ∀ q : Nat, q < z → H[q]? = H0[q]?
theorem FZ.mk {z : Nat} {W : Heap → Prop} {H : Heap} (h : H.size = z) (hw : W H) : FZ z W H := ⟨H, h, hw, by omega, fun _ _ => rfl⟩
theorem FZ.kp {z : Nat} {W : Heap → Prop} : KP z (FZ z W) := fun H H1 ⟨H0, h0, h1, h2, h3⟩ hz hq => ⟨H0, h0, h1, hz, fun q q1 => (hq q q1).trans (h3 q q1)⟩
/-- a world that can be had back -/
def ST (z : Nat) (W : Heap → Prop) : Prop := ∀ H H1 : Heap, H.size = z → W H → H.size ≤ H1.size → (∀ q : Nat, q < H.size → H1[q]? = H[q]?) → W H1
theorem ST.and {z : Nat} {W V : Heap → Prop} (h : ST z W) (h2 : ST z V) : ST z (fun H => W H ∧ V H) := fun H H1 h0 hw h1 hq => ⟨h H H1 h0 hw.1 h1 hq, h2 H H1 h0 hw.2 h1 hq⟩
theorem LW.st {z : Nat} {W : Heap → Prop} (h : LW W) : ST z W := fun H H1 _ hw h1 hq => h H H1 hw h1 hq
theorem KP.st {z z0 : Nat} {W : Heap → Prop} (h : KP z0 W) (hz : z0 ≤ z) : ST z W := fun H H1 h0 hw h1 hq => h H H1 hw (by omega) (fun q h2 => hq q (by omega))
theorem FZ.out {z : Nat} {W : Heap → Prop} {H : Heap} (hl : ST z W) (h : FZ z W H) : W H := by
  obtain ⟨H0, h0, h1, h2, h3⟩ := h
  exact hl H0 H h0 h1 (by omega) (fun q q1 => h3 q (by omega))
theorem FZ.sz {z : Nat} {W : Heap → Prop} {H : Heap} (h : FZ z W H) : z ≤ H.size := by
  obtain ⟨H0, h0, h1, h2, h3⟩ := h; exact h2
theorem FZ.lw {z : Nat} {W : Heap → Prop} : LW (FZ z W) := fun H H1 h h1 hq => FZ.kp H H1 h (Nat.le_trans h.sz h1) (fun q q1 => hq q (Nat.lt_of_lt_of_le q1 h.sz))
/-- rows of two ints: spans as the law holds them -/
def RW (E : EN) (b : Nat) (g : SpT) (r : Int → Nat) (H : Heap) : Prop := vR E 3 b g.1 r H ∧ ∀ k : Int, 0 ≤ k → k < g.1 → vI E (r k) 2 (pr (g.2.1 k) (g.2.2 k)) H
theorem RW.lw {E : EN} {b : Nat} {g : SpT} {r : Int → Nat} : LW (RW E b g r) := fun H H1 h _ hq => ⟨h.1.kept (hq _ h.1.lt), fun k h0 h1 => (h.2 k h0 h1).kept (hq _ (h.2 k h0 h1).lt)⟩
/-- rows that are made from cell z on, one after the other -/
def MR (E : EN) (z c : Nat) (g : SpT) (r : Int → Nat) (H : Heap) : Prop := RW E c g r H ∧ (0 ≤ g.1 ∧ z ≤ c) ∧ (∀ k : Int, 0 ≤ k → k < g.1 → z ≤ r k ∧ r k < c) ∧ ∀ j k : Int, 0 ≤ j → j < k → k < g.1 → r j < r k
theorem MR.lw {E : EN} {z c : Nat} {g : SpT} {r : Int → Nat} : LW (MR E z c g r) := fun H H1 h hz hq => ⟨RW.lw H H1 h.1 hz hq, h.2⟩
theorem MR.keep {E : EN} {z c x : Nat} {g : SpT} {r : Int → Nat} {H H1 : Heap} (h : MR E z c g r H) (hx : x < z ∨ c < x) (oq : ∀ q : Nat, q ≠ x → H1[q]? = H[q]?) : MR E z c g r H1 := by
  refine ⟨⟨h.1.1.kept (oq _ (by have := h.2.1; show c ≠ x; omega)), fun k h0 h1 => (h.1.2 k h0 h1).kept (oq _ ?_)⟩, h.2⟩
  have := h.2.2.1 k h0 h1
  show r k ≠ x
  omega
/-- a span put behind the others -/
def apn (g : SpT) (f l : Int) : SpT := (g.1 + 1, upI g.2.1 g.1 f, upI g.2.2 g.1 l)
theorem MR.push {E : EN} {z c a c2 : Nat} {g : SpT} {r : Int → Nat} {f l : Int} {H H1 : Heap} (h : MR E z c g r H) (ha : c < a ∧ a < c2) (hv : vI E a 2 (pr f l) H1) (hc : vR E 3 c2 (g.1 + 1) (upI r g.1 a) H1) (hq : ∀ q : Nat, q < a → H1[q]? = H[q]?) : MR E z c2 (apn g f l) (upI r g.1 a) H1 := by
  have hg := h.2.1
  refine ⟨⟨hc, fun k h0 h1 => ?_⟩, ⟨by show 0 ≤ g.1 + 1; omega, by omega⟩, fun k h0 h1 => ?_, fun j k h0 h1 h2 => ?_⟩
  · have h1 : k < g.1 + 1 := h1
    show vI E (upI r g.1 a k) 2 (pr (upI g.2.1 g.1 f k) (upI g.2.2 g.1 l k)) H1
    by_cases e : k = g.1
    · subst e; rw [upI_s, upI_s, upI_s]; exact hv
    · rw [upI_n _ _ e, upI_n _ _ e, upI_n _ _ e]
      have w := h.2.2.1 k h0 (by omega)
      exact (h.1.2 k h0 (by omega)).kept (hq _ (by show r k < a; omega))
  · have h1 : k < g.1 + 1 := h1
    by_cases e : k = g.1
    · subst e; rw [upI_s]; omega
    · rw [upI_n _ _ e]
      have w := h.2.2.1 k h0 (by omega)
      omega
  · have h2 : k < g.1 + 1 := h2
    by_cases e : k = g.1
    · subst e; rw [upI_s, upI_n _ _ (by omega)]
      have w := h.2.2.1 j h0 (by omega)
      omega
    · rw [upI_n _ _ e, upI_n _ _ (by omega)]
      exact h.2.2.2 j k h0 h1 (by omega)
/-- one of the rows written -/
theorem MR.set {E : EN} {z c : Nat} {g : SpT} {r : Int → Nat} {k f l : Int} {H H1 : Heap} (h : MR E z c g r H) (hk : 0 ≤ k ∧ k < g.1) (hv : vI E (r k) 2 (pr f l) H1) (oq : ∀ q : Nat, q ≠ r k → H1[q]? = H[q]?) : MR E z c (g.1, upI g.2.1 k f, upI g.2.2 k l) r H1 := by
  have hc := h.2.2.1 k hk.1 hk.2
  refine ⟨⟨h.1.1.kept (oq _ (by show c ≠ r k; omega)), fun j h0 h1 => ?_⟩, h.2⟩
  show vI E (r j) 2 (pr (upI g.2.1 k f j) (upI g.2.2 k l j)) H1
  by_cases e : j = k
  · subst e; rw [upI_s, upI_s]; exact hv
  · rw [upI_n _ _ e, upI_n _ _ e]
    refine (h.1.2 j h0 h1).kept (oq _ ?_)
    show r j ≠ r k
    rcases Int.lt_or_gt_of_ne e with c | c
    · exact Nat.ne_of_lt (h.2.2.2 j k h0 c hk.2)
    · exact (Nat.ne_of_lt (h.2.2.2 k j hk.1 c h1)).symm
theorem MR.eq {E : EN} {z c : Nat} {g g2 : SpT} {r : Int → Nat} {H : Heap} (h : MR E z c g r H) (h1 : g.1 = g2.1) (h2 : ∀ k : Int, 0 ≤ k → k < g.1 → g.2.1 k = g2.2.1 k ∧ g.2.2 k = g2.2.2 k) : MR E z c g2 r H := by
  obtain ⟨⟨x1, x2⟩, x3, x4, x5⟩ := h
  refine ⟨⟨h1 ▸ x1, fun k k0 k1 => ?_⟩, ⟨by omega, x3.2⟩, fun k k0 k1 => x4 k k0 (by omega), fun j k k0 k1 k2 => x5 j k k0 k1 (by omega)⟩
  have w := h2 k k0 (by omega)
  rw [← w.1, ← w.2]
  exact x2 k k0 (by omega)
/-! THE INDEX BY HAND: its object at sm; behind it the law's arrays. What lies where: names of cells, the rows of spans, sees, the rows of see alsos -/
abbrev SA : Type := (Nat → Int) × (Nat × Nat × Nat) × (Int → Nat) × (Int → Nat) × (Int → Int → Nat) × (Int → Int) × (Int → Int → Int)
abbrev sO (S : SA) : Nat → Int := S.1
abbrev s3 (S : SA) : Nat := S.2.1.1
abbrev s1 (S : SA) : Nat := S.2.1.2.1
abbrev s2 (S : SA) : Nat := S.2.1.2.2
abbrev sB (S : SA) : Int → Nat := S.2.2.1
abbrev sD (S : SA) : Int → Nat := S.2.2.2.1
abbrev sR (S : SA) : Int → Int → Nat := S.2.2.2.2.1
abbrev sM (S : SA) : Int → Int := S.2.2.2.2.2.1
abbrev sV (S : SA) : Int → Int → Int := S.2.2.2.2.2.2
/-- each cell has one name -/
def TG (zc sm : Nat) (S : SA) (sp : Int → SpT) (n : Int) : Prop := (∀ q : Nat, q < zc → sO S q = -9) ∧ sO S sm = -1 ∧ sO S (s3 S) = -2 ∧ sO S (s1 S) = -3 ∧ sO S (s2 S) = -4 ∧ ∀ u : Int, 0 ≤ u → u < n → (sO S (sB S u) = 1000 * u ∧ sO S (sD S u) = 1000 * u + 1) ∧ ((sp u).1 ≤ 16 ∧ 0 ≤ (sp u).1) ∧ 0 ≤ sM S u ∧ ∀ k : Int, 0 ≤ k → k < (sp u).1 → sO S (sR S u k) = 1000 * u + 2 + k
/-- the arrays -/
def SX (E : EN) (zc sm : Nat) (S : SA) (sp : Int → SpT) (se : Int → Int) (n : Int) (H : Heap) : Prop :=
  vR E 4 (s3 S) n (sB S) H ∧ vI E (s1 S) n se H ∧ vR E 3 (s2 S) n (sD S) H ∧
  (∀ u : Int, 0 ≤ u → u < n → RW E (sB S u) (sp u) (sR S u) H ∧ vI E (sD S u) (sM S u) (sV S u) H) ∧ TG zc sm S sp n
section SXs
variable {E : EN} {zc sm : Nat} {S : SA} {sp : Int → SpT} {se : Int → Int} {n : Int} {H H1 : Heap}
theorem SX.lw : LW (SX E zc sm S sp se n) := fun H H1 h hz hq => ⟨h.1.kept (hq _ h.1.lt), h.2.1.kept (hq _ h.2.1.lt), h.2.2.1.kept (hq _ h.2.2.1.lt), fun u h0 h1 => ⟨RW.lw _ _ (h.2.2.2.1 u h0 h1).1 hz hq, (h.2.2.2.1 u h0 h1).2.kept (hq _ (h.2.2.2.1 u h0 h1).2.lt)⟩, h.2.2.2.2⟩
theorem SX.a3 (h : SX E zc sm S sp se n H) : vR E 4 (s3 S) n (sB S) H := h.1
theorem SX.a1 (h : SX E zc sm S sp se n H) : vI E (s1 S) n se H := h.2.1
theorem SX.a2 (h : SX E zc sm S sp se n H) : vR E 3 (s2 S) n (sD S) H := h.2.2.1
theorem SX.rw (h : SX E zc sm S sp se n H) {u : Int} (hu : 0 ≤ u ∧ u < n) : RW E (sB S u) (sp u) (sR S u) H := (h.2.2.2.1 u hu.1 hu.2).1
theorem SX.b (h : SX E zc sm S sp se n H) {u : Int} (hu : 0 ≤ u ∧ u < n) : vR E 3 (sB S u) (sp u).1 (sR S u) H := (h.2.2.2.1 u hu.1 hu.2).1.1
theorem SX.d (h : SX E zc sm S sp se n H) {u : Int} (hu : 0 ≤ u ∧ u < n) : vI E (sD S u) (sM S u) (sV S u) H := (h.2.2.2.1 u hu.1 hu.2).2
theorem SX.r (h : SX E zc sm S sp se n H) {u k : Int} (hu : 0 ≤ u ∧ u < n) (hk : 0 ≤ k ∧ k < (sp u).1) : vI E (sR S u k) 2 (pr ((sp u).2.1 k) ((sp u).2.2 k)) H := (h.2.2.2.1 u hu.1 hu.2).1.2 k hk.1 hk.2
theorem SX.tg (h : SX E zc sm S sp se n H) : TG zc sm S sp n := h.2.2.2.2
theorem SX.n0 (h : SX E zc sm S sp se n H) {u : Int} (hu : 0 ≤ u ∧ u < n) : 0 ≤ (sp u).1 ∧ (sp u).1 ≤ 16 ∧ 0 ≤ sM S u := ⟨(h.tg.2.2.2.2.2 u hu.1 hu.2).2.1.2, (h.tg.2.2.2.2.2 u hu.1 hu.2).2.1.1, (h.tg.2.2.2.2.2 u hu.1 hu.2).2.2.1⟩
theorem TG.ge (h : TG zc sm S sp n) {x : Nat} (hx : sO S x ≠ -9) : zc ≤ x := Nat.le_of_not_lt fun z => hx (h.1 x z)
theorem TG.sge (h : TG zc sm S sp n) : zc ≤ sm := h.ge (by rw [h.2.1]; decide)
/-- a write at a cell of another name -/
theorem SX.keep (h : SX E zc sm S sp se n H) {x : Nat} (hx : sO S x = -1 ∨ sO S x = -9) (oq : ∀ q : Nat, q ≠ x → H1[q]? = H[q]?) : SX E zc sm S sp se n H1 := by
  have ht := h.tg
  have hne : ∀ y : Nat, sO S y ≠ -1 → sO S y ≠ -9 → H1[y]? = H[y]? := fun y h1 h2 => oq y (fun e => by subst e; rcases hx with q | q <;> contradiction)
  refine ⟨h.1.kept (hne _ ?_ ?_), h.2.1.kept (hne _ ?_ ?_), h.2.2.1.kept (hne _ ?_ ?_), fun u h0 h1 => ⟨⟨(h.2.2.2.1 u h0 h1).1.1.kept (hne _ ?_ ?_), fun k k0 k1 => ((h.2.2.2.1 u h0 h1).1.2 k k0 k1).kept (hne _ ?_ ?_)⟩, (h.2.2.2.1 u h0 h1).2.kept (hne _ ?_ ?_)⟩, ht⟩
  · show sO S (s3 S) ≠ _; rw [ht.2.2.1]; decide
  · show sO S (s3 S) ≠ _; rw [ht.2.2.1]; decide
  · show sO S (s1 S) ≠ _; rw [ht.2.2.2.1]; decide
  · show sO S (s1 S) ≠ _; rw [ht.2.2.2.1]; decide
  · show sO S (s2 S) ≠ _; rw [ht.2.2.2.2.1]; decide
  · show sO S (s2 S) ≠ _; rw [ht.2.2.2.2.1]; decide
  · show sO S (sB S u) ≠ _; rw [(ht.2.2.2.2.2 u h0 h1).1.1]; omega
  · show sO S (sB S u) ≠ _; rw [(ht.2.2.2.2.2 u h0 h1).1.1]; omega
  · show sO S (sR S u k) ≠ _; rw [(ht.2.2.2.2.2 u h0 h1).2.2.2 k k0 k1]; omega
  · show sO S (sR S u k) ≠ _; rw [(ht.2.2.2.2.2 u h0 h1).2.2.2 k k0 k1]; omega
  · show sO S (sD S u) ≠ _; rw [(ht.2.2.2.2.2 u h0 h1).1.2]; omega
  · show sO S (sD S u) ≠ _; rw [(ht.2.2.2.2.2 u h0 h1).1.2]; omega
/-- a see set -/
theorem SX.setSee (h : SX E zc sm S sp se n H) {F : Int → Int} (hv : vI E (s1 S) n F H1) (oq : ∀ q : Nat, q ≠ s1 S → H1[q]? = H[q]?) : SX E zc sm S sp F n H1 := by
  have ht := h.tg
  have hne : ∀ y : Nat, sO S y ≠ -3 → H1[y]? = H[y]? := fun y h1 => oq y (fun e => h1 (by rw [e]; exact ht.2.2.2.1))
  refine ⟨h.1.kept (hne _ ?_), hv, h.2.2.1.kept (hne _ ?_), fun u h0 h1 => ⟨⟨(h.2.2.2.1 u h0 h1).1.1.kept (hne _ ?_), fun k k0 k1 => ((h.2.2.2.1 u h0 h1).1.2 k k0 k1).kept (hne _ ?_)⟩, (h.2.2.2.1 u h0 h1).2.kept (hne _ ?_)⟩, ht⟩
  · show sO S (s3 S) ≠ _; rw [ht.2.2.1]; decide
  · show sO S (s2 S) ≠ _; rw [ht.2.2.2.2.1]; decide
  · show sO S (sB S u) ≠ _; rw [(ht.2.2.2.2.2 u h0 h1).1.1]; omega
  · show sO S (sR S u k) ≠ _; rw [(ht.2.2.2.2.2 u h0 h1).2.2.2 k k0 k1]; omega
  · show sO S (sD S u) ≠ _; rw [(ht.2.2.2.2.2 u h0 h1).1.2]; omega
/-- a row of spans written -/
theorem SX.setRow (h : SX E zc sm S sp se n H) {u k f l : Int} (hu : 0 ≤ u ∧ u < n) (hk : 0 ≤ k ∧ k < (sp u).1) (hv : vI E (sR S u k) 2 (pr f l) H1) (oq : ∀ q : Nat, q ≠ sR S u k → H1[q]? = H[q]?) : SX E zc sm S (upI sp u ((sp u).1, upI (sp u).2.1 k f, upI (sp u).2.2 k l)) se n H1 := by
  have ht := h.tg
  have hnm := (ht.2.2.2.2.2 u hu.1 hu.2).2.2.2 k hk.1 hk.2
  have hne : ∀ y : Nat, sO S y ≠ 1000 * u + 2 + k → H1[y]? = H[y]? := fun y h1 => oq y (fun e => h1 (by rw [e]; exact hnm))
  have h16 := (ht.2.2.2.2.2 u hu.1 hu.2).2.1
  refine ⟨h.1.kept (hne _ ?_), h.2.1.kept (hne _ ?_), h.2.2.1.kept (hne _ ?_), fun j h0 h1 => ⟨?_, (h.2.2.2.1 j h0 h1).2.kept (hne _ ?_)⟩, ?_⟩
  · show sO S (s3 S) ≠ _; rw [ht.2.2.1]; omega
  · show sO S (s1 S) ≠ _; rw [ht.2.2.2.1]; omega
  · show sO S (s2 S) ≠ _; rw [ht.2.2.2.2.1]; omega
  · by_cases e : j = u
    · subst e
      rw [upI_s]
      refine ⟨(h.2.2.2.1 j h0 h1).1.1.kept (hne _ ?_), fun i i0 i1 => ?_⟩
      · show sO S (sB S j) ≠ _; rw [(ht.2.2.2.2.2 j h0 h1).1.1]; omega
      · show vI E (sR S j i) 2 (pr (upI (sp j).2.1 k f i) (upI (sp j).2.2 k l i)) H1
        have i1 : i < (sp j).1 := i1
        by_cases e2 : i = k
        · subst e2; rw [upI_s, upI_s]; exact hv
        · rw [upI_n _ _ e2, upI_n _ _ e2]
          refine ((h.2.2.2.1 j h0 h1).1.2 i i0 i1).kept (hne _ ?_)
          show sO S (sR S j i) ≠ _; rw [(ht.2.2.2.2.2 j h0 h1).2.2.2 i i0 i1]; omega
    · rw [upI_n _ _ e]
      have w16 := (ht.2.2.2.2.2 j h0 h1).2.1
      refine ⟨(h.2.2.2.1 j h0 h1).1.1.kept (hne _ ?_), fun i i0 i1 => ((h.2.2.2.1 j h0 h1).1.2 i i0 i1).kept (hne _ ?_)⟩
      · show sO S (sB S j) ≠ _; rw [(ht.2.2.2.2.2 j h0 h1).1.1]; omega
      · show sO S (sR S j i) ≠ _; rw [(ht.2.2.2.2.2 j h0 h1).2.2.2 i i0 i1]; omega
  · show sO S (sD S j) ≠ _; rw [(ht.2.2.2.2.2 j h0 h1).1.2]; omega
  · refine ⟨ht.1, ht.2.1, ht.2.2.1, ht.2.2.2.1, ht.2.2.2.2.1, fun j h0 h1 => ?_⟩
    by_cases e : j = u
    · subst e; rw [upI_s]; exact ht.2.2.2.2.2 j h0 h1
    · rw [upI_n _ _ e]; exact ht.2.2.2.2.2 j h0 h1
theorem SX.eq {sp2 : Int → SpT} {se2 : Int → Int} (h : SX E zc sm S sp se n H) (h1 : ∀ u : Int, 0 ≤ u → u < n → (sp u).1 = (sp2 u).1 ∧ ∀ k : Int, 0 ≤ k → k < (sp u).1 → (sp u).2.1 k = (sp2 u).2.1 k ∧ (sp u).2.2 k = (sp2 u).2.2 k) (h2 : ∀ u : Int, 0 ≤ u → u < n → se u = se2 u) : SX E zc sm S sp2 se2 n H := by
  obtain ⟨x1, x2, x3, x4, x5, x6, x7, x8, x9, x10⟩ := h
  refine ⟨x1, x2.eq h2, x3, fun u u0 u1 => ⟨⟨(h1 u u0 u1).1 ▸ (x4 u u0 u1).1.1, fun k k0 k1 => ?_⟩, (x4 u u0 u1).2⟩, x5, x6, x7, x8, x9, fun u u0 u1 => ?_⟩
  · have w := (h1 u u0 u1).2 k k0 (by rw [(h1 u u0 u1).1]; exact k1)
    rw [← w.1, ← w.2]
    exact (x4 u u0 u1).1.2 k k0 (by rw [(h1 u u0 u1).1]; exact k1)
  · have w := x10 u u0 u1
    rw [← (h1 u u0 u1).1]
    exact w
end SXs
