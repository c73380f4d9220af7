/-! THE CLASS AND THE INDEX BY HAND, side by side -/
/-- the same spans -/
def SE (hs sp : Int → SpT) (n : Int) : Prop := ∀ i : Int, 0 ≤ i → i < n → (hs i).1 = (sp i).1 ∧ ∀ k : Int, 0 ≤ k → k < (hs i).1 → (hs i).2.1 k = (sp i).2.1 k ∧ (hs i).2.2 k = (sp i).2.2 k
section SEs
variable {hs sp : Int → SpT} {n pg : Int}
theorem SE.rf (sp : Int → SpT) (n : Int) : SE sp sp n := fun i _ _ => ⟨rfl, fun _ _ _ => ⟨rfl, rfl⟩⟩
theorem SE.mono {m : Int} (h : SE hs sp m) (hm : n ≤ m) : SE hs sp n := fun i h0 h1 => h i h0 (by omega)
theorem SE.tr {s2 : Int → SpT} (h : SE hs sp n) (h2 : SE sp s2 n) : SE hs s2 n := fun i h0 h1 => ⟨(h i h0 h1).1.trans (h2 i h0 h1).1, fun k k0 k1 => by
  have a := (h i h0 h1).2 k k0 k1
  have b := (h2 i h0 h1).2 k k0 (by rw [← (h i h0 h1).1]; exact k1)
  exact ⟨a.1.trans b.1, a.2.trans b.2⟩⟩
theorem SE.sym (h : SE hs sp n) : SE sp hs n := fun i h0 h1 => ⟨(h i h0 h1).1.symm, fun k k0 k1 => by
  have a := (h i h0 h1).2 k k0 (by rw [(h i h0 h1).1]; exact k1)
  exact ⟨a.1.symm, a.2.symm⟩⟩
theorem SE.of (h : ∀ i : Int, 0 ≤ i → i < n → hs i = sp i) : SE hs sp n := fun i h0 h1 => by rw [h i h0 h1]; exact ⟨rfl, fun _ _ _ => ⟨rfl, rfl⟩⟩
theorem SE.cov (h : SE hs sp n) {i : Int} (hi : 0 ≤ i ∧ i < n) (q : Int) : cov (hs i) q ↔ cov (sp i) q := by
  have w := h i hi.1 hi.2
  constructor
  · rintro ⟨k, k0, k1, k2, k3⟩
    have e := w.2 k k0 k1
    exact ⟨k, k0, by omega, by omega, by omega⟩
  · rintro ⟨k, k0, k1, k2, k3⟩
    have e := w.2 k k0 (by omega)
    exact ⟨k, k0, by omega, by omega, by omega⟩
theorem SE.pgs (h : SE hs sp n) {i : Int} (hi : 0 ≤ i ∧ i < n) : PGS (hs i) = PGS (sp i) := by
  have w := h i hi.1 hi.2
  show smI _ (hs i).1.toNat = smI _ (sp i).1.toNat
  rw [← w.1]
  refine smI_c (fun k k0 k1 => ?_)
  have e := w.2 k k0 (by omega)
  show (hs i).2.2 k - (hs i).2.1 k + 1 = (sp i).2.2 k - (sp i).2.1 k + 1
  omega
theorem SE.vl (h : SE hs sp n) {i : Int} (hi : 0 ≤ i ∧ i < n) (hv : VL (sp i) pg) : VL (hs i) pg := by
  have w := h i hi.1 hi.2
  refine ⟨by rw [w.1]; exact hv.1, by rw [w.1]; exact hv.2.1, fun k k0 k1 => ?_, fun k k0 k1 => ?_⟩
  · have e := w.2 k k0 k1
    have v := hv.2.2.1 k k0 (by omega)
    omega
  · have e := w.2 k k0 (by omega)
    have e2 := w.2 (k + 1) (by omega) k1
    have v := hv.2.2.2 k k0 (by omega)
    omega
theorem SE.spv (h : SE hs sp n) (hv : SPV sp n pg) : SPV hs n pg := fun i h0 h1 => ⟨h.vl ⟨h0, h1⟩ (hv i h0 h1).1, by rw [(h i h0 h1).1]; exact (hv i h0 h1).2⟩
theorem SE.chn (h : SE hs sp n) (q : Int) : CHN hs n q = CHN sp n q := smI_c (fun i i0 i1 => pI_c (h.cov ⟨i0, by omega⟩ q))
theorem SE.bare (h : SE hs sp n) : BARE hs n pg = BARE sp n pg := smI_c (fun k _ _ => by show pI (CHN hs n (k + 1) = 0) = pI (CHN sp n (k + 1) = 0); rw [h.chn])
theorem SE.full (h : SE hs sp n) : FULL hs n pg = FULL sp n pg := (flS_c (fun k _ _ => h.chn k)).1
theorem SE.vain {se : Int → Int} {al : Int → Nat} (h : SE hs sp n) (hg : GR se al n) : VAIN hs se n = VAIN sp se n := by
  refine smI_c (fun k k0 k1 => pI_c ?_)
  have r := eS_rng hg.1 n.toNat k k0 (by omega)
  rcases r with r | r
  · rw [r]; simp
  · rw [(h _ r.1 r.2).1]
theorem SE.near (h : SE hs sp n) (hv : SPV sp n pg) (hp : 0 ≤ pg) {u : Int} (hu : 0 ≤ u ∧ u < n) : NEAR hs n u = NEAR sp n u := by
  have e : ∀ k : Int, 0 ≤ k → k < n.toNat → (fun o => if o = u then 0 else pic (hs u) (hs o) ((hs u).1 + (hs o).1).toNat 0 0 0) k = (fun o => if o = u then 0 else pic (sp u) (sp o) ((sp u).1 + (sp o).1).toNat 0 0 0) k := by
    intro k k0 k1
    show (if k = u then 0 else pic (hs u) (hs k) ((hs u).1 + (hs k).1).toNat 0 0 0) = (if k = u then 0 else pic (sp u) (sp k) ((sp u).1 + (sp k).1).toNat 0 0 0)
    have hv2 := h.spv hv
    rw [pic_all (hv2 u hu.1 hu.2).1 (hv2 k k0 (by omega)).1 hp, pic_all (hv u hu.1 hu.2).1 (hv k k0 (by omega)).1 hp]
    by_cases c : k = u
    · rw [if_pos c, if_pos c]
    · rw [if_neg c, if_neg c]
      exact smI_c (fun r _ _ => pI_c (by rw [h.cov hu, h.cov ⟨k0, by omega⟩]))
  show (nrS _ n.toNat).1 = (nrS _ n.toNat).1
  rw [nrS_c e]
theorem dgS_c {g o : SpT} (d : Int64) : ∀ m : Nat, (∀ k : Int, 0 ≤ k → k < m → g.2.1 k = o.2.1 k ∧ g.2.2 k = o.2.2 k) → dgS g d m = dgS o d m
  | 0, _ => rfl
  | m + 1, h => by
    show dgW (dgW (dgS g d m) (iI (g.2.1 m)).toInt64) (iI (g.2.2 m)).toInt64 = dgW (dgW (dgS o d m) (iI (o.2.1 m)).toInt64) (iI (o.2.2 m)).toInt64
    rw [dgS_c d m (fun k k0 k1 => h k k0 (by omega)), (h m (by omega) (by omega)).1, (h m (by omega) (by omega)).2]
noncomputable abbrev DIG (sp : Int → SpT) (se : Int → Int) (al : Int → Nat) (n pg : Int) : Int64 := dgA sp se al n (dgL 2113 (TLS sp se al n pg)) n.toNat
theorem SE.dig {se : Int → Int} {al : Int → Nat} (h : SE hs sp n) (hv : SPV sp n pg) (hp : 0 ≤ pg) (hg : GR se al n) : DIG hs se al n pg = DIG sp se al n pg := by
  have w : ∀ (d : Int64) (k : Nat), (k : Int) ≤ n → dgA hs se al n d k = dgA sp se al n d k := by
    intro d k
    induction k with
    | zero => intro _; rfl
    | succ k ih =>
      intro hk
      have hi : (0 : Int) ≤ (k : Int) ∧ (k : Int) < n := by omega
      have e := h k hi.1 hi.2
      show dgS (hs k) (dgL (dgA hs se al n d k) (HL hs se al n k)) (hs k).1.toNat = dgS (sp k) (dgL (dgA sp se al n d k) (HL sp se al n k)) (sp k).1.toNat
      rw [ih (by omega), dgS_c _ (hs k).1.toNat (fun j j0 j1 => e.2 j j0 (by omega)), e.1]
      have eh : HL hs se al n k = HL sp se al n k := by
        show [_, _, _, _, _, _, _, _] = [_, _, _, _, _, _, _, _]
        rw [e.1, show NEAR hs n k = NEAR sp n k from h.near hv hp hi, show PGS (hs k) = PGS (sp k) from h.pgs hi]
      rw [eh]
  have et : TLS hs se al n pg = TLS sp se al n pg := by
    show [_, _, _, _, _, _] = [_, _, _, _, _, _]
    rw [show BARE hs n pg = BARE sp n pg from h.bare, show FULL hs n pg = FULL sp n pg from h.full, show VAIN hs se n = VAIN sp se n from h.vain hg]
  show dgA hs se al n (dgL 2113 (TLS hs se al n pg)) n.toNat = dgA sp se al n (dgL 2113 (TLS sp se al n pg)) n.toNat
  rw [et]
  by_cases c : 0 ≤ n
  · exact w _ _ (by omega)
  · rw [show n.toNat = 0 by omega]; rfl
theorem SE.sump (h : SE hs sp n) : SUMP hs n = SUMP sp n := smI_c (fun i i0 i1 => h.pgs ⟨i0, by omega⟩)
theorem SE.cntp (h : SE hs sp n) : CNTP hs n = CNTP sp n := smI_c (fun i i0 i1 => by show pI (0 < PGS (hs i)) = pI (0 < PGS (sp i)); rw [h.pgs ⟨i0, by omega⟩])
end SEs
/-- what holds of an index always -/
def JV (sp : Int → SpT) (se : Int → Int) (al : Int → Nat) (n pg : Int) : Prop := (0 ≤ n ∧ n ≤ 24) ∧ (1 ≤ pg ∧ pg ≤ 300) ∧ SPV sp n pg ∧ GR se al n ∧ (∀ u : Int, 0 ≤ u → u < n → pop (al u) 24 ≤ 4) ∧ (∀ u : Int, n ≤ u → u < 24 → (sp u).1 = 0 ∧ al u = 0) ∧ ∀ u : Int, 0 ≤ u → u < n → se u ≠ u ∧ (¬ (al u).testBit u.toNat = true) ∧ (se u ≠ -1 → (sp u).1 = 0)
section JVs
variable {sp hs : Int → SpT} {se : Int → Int} {al : Int → Nat} {n pg : Int}
theorem JV.hn (J : JV sp se al n pg) : 0 ≤ n ∧ n ≤ 24 := J.1
theorem JV.hpg (J : JV sp se al n pg) : 1 ≤ pg ∧ pg ≤ 300 := J.2.1
theorem JV.hsp (J : JV sp se al n pg) : SPV sp n pg := J.2.2.1
theorem JV.hgr (J : JV sp se al n pg) : GR se al n := J.2.2.2.1
theorem JV.hp4 (J : JV sp se al n pg) : ∀ u : Int, 0 ≤ u → u < n → pop (al u) 24 ≤ 4 := J.2.2.2.2.1
theorem JV.hre (J : JV sp se al n pg) : ∀ u : Int, n ≤ u → u < 24 → (sp u).1 = 0 ∧ al u = 0 := J.2.2.2.2.2.1
theorem JV.hno (J : JV sp se al n pg) : ∀ u : Int, 0 ≤ u → u < n → se u ≠ u ∧ (¬ (al u).testBit u.toNat = true) ∧ (se u ≠ -1 → (sp u).1 = 0) := J.2.2.2.2.2.2
theorem JV.toSE (J : JV sp se al n pg) (h : SE hs sp 24) : JV hs se al n pg :=
  have hn := J.hn
  ⟨J.hn, J.hpg, (h.mono hn.2).spv J.hsp, J.hgr, J.hp4, fun u h0 h1 => ⟨by rw [(h u (by omega) h1).1]; exact (J.hre u h0 h1).1, (J.hre u h0 h1).2⟩, fun u h0 h1 => ⟨(J.hno u h0 h1).1, (J.hno u h0 h1).2.1, fun z => by rw [(h u h0 (by omega)).1]; exact (J.hno u h0 h1).2.2 z⟩⟩
theorem jv_0 (h1 : ∀ u : Int, 0 ≤ u → u < 24 → (sp u).1 = 0) (h2 : ∀ u, al u = 0) : JV sp se al 0 100 :=
  ⟨by decide, by decide, fun i h0 h1 => by omega, ⟨fun k h0 h1 => by omega, fun k h0 h1 => by omega⟩, fun u h0 h1 => by omega, fun u h0 h3 => ⟨h1 u h0 h3, h2 u⟩, fun u h0 h1 => by omega⟩
theorem jv_add (J : JV sp se al n pg) (h : n < 24) : JV sp (upI se n (-1)) al (n + 1) pg := by
  have hn := J.hn
  have hz := J.hre n (Int.le_refl _) h
  refine ⟨by omega, J.hpg, fun i h0 h1 => ?_, ⟨fun k h0 h1 => ?_, fun k h0 h1 => ?_⟩, fun u h0 h1 => ?_, fun i h0 h1 => J.hre i (by omega) h1, fun u h0 h1 => ?_⟩
  · by_cases c : i = n
    · rw [c]; exact ⟨vl_z hz.1 pg, by omega⟩
    · exact J.hsp i h0 (by omega)
  · rw [upI_if]
    by_cases c : k = n
    · rw [if_pos c]; omega
    · rw [if_neg c]; have z := J.hgr.1 k h0 (by omega); omega
  · by_cases c : k = n
    · rw [c, hz.2]; exact Nat.pow_pos (by decide)
    · exact Nat.lt_of_lt_of_le (J.hgr.2 k h0 (by omega)) (Nat.pow_le_pow_right (by decide) (by omega))
  · by_cases c : u = n
    · rw [c, hz.2, show pop 0 24 = 0 by decide]; decide
    · exact J.hp4 u h0 (by omega)
  · by_cases c : u = n
    · rw [c, upI_s, hz.2]
      exact ⟨by omega, by simp, fun z => absurd rfl z⟩
    · rw [upI_n _ _ c]; exact J.hno u h0 (by omega)
theorem jv_see (J : JV sp se al n pg) {u o : Int} (hu : 0 ≤ u ∧ u < n) (ho : -1 ≤ o ∧ o < n ∧ o ≠ u) (h0 : o ≠ -1 → (sp u).1 = 0) : JV sp (upI se u o) al n pg := by
  refine ⟨J.hn, J.hpg, J.hsp, ⟨fun k h0 h1 => ?_, J.hgr.2⟩, J.hp4, J.hre, fun k k0 k1 => ?_⟩
  · rw [upI_if]
    by_cases c : k = u
    · rw [if_pos c]; omega
    · rw [if_neg c]; exact J.hgr.1 k h0 h1
  · by_cases c : k = u
    · rw [c, upI_s]; exact ⟨ho.2.2, (J.hno u hu.1 hu.2).2.1, h0⟩
    · rw [upI_n _ _ c]; exact J.hno k k0 k1
theorem jv_also (J : JV sp se al n pg) {u o : Int} (hu : 0 ≤ u ∧ u < n) (ho : 0 ≤ o ∧ o < n ∧ o ≠ u) (h4 : pop (al u ^^^ 2 ^ o.toNat) 24 ≤ 4) : JV sp se (upI al u (al u ^^^ 2 ^ o.toNat)) n pg := by
  have hn := J.hn
  refine ⟨hn, J.hpg, J.hsp, ⟨J.hgr.1, fun k h0 h1 => ?_⟩, fun k h0 h1 => ?_, fun k h0 h1 => ?_, fun k k0 k1 => ?_⟩
  · rw [upI_if]
    by_cases c : k = u
    · rw [if_pos c]; exact Nat.xor_lt_two_pow (J.hgr.2 u hu.1 hu.2) (Nat.pow_lt_pow_right (by decide) (by omega))
    · rw [if_neg c]; exact J.hgr.2 k h0 h1
  · rw [upI_if]
    by_cases c : k = u
    · rw [if_pos c]; exact h4
    · rw [if_neg c]; exact J.hp4 k h0 h1
  · rw [upI_if, if_neg (by omega)]; exact J.hre k h0 h1
  · have w := J.hno k k0 k1
    refine ⟨w.1, ?_, w.2.2⟩
    rw [upI_if]
    by_cases c : k = u
    · rw [if_pos c, c, xor_bit, if_neg (by omega)]
      have w2 := (J.hno u hu.1 hu.2).2.1
      exact w2
    · rw [if_neg c]; exact w.2.1
theorem jv_pages (J : JV sp se al n pg) {u : Int} {G : SpT} (hu : 0 ≤ u ∧ u < n) (hG : VL G pg ∧ G.1 ≤ 8) (hs : se u ≠ -1 → G.1 = 0) : JV (upI sp u G) se al n pg := by
  refine ⟨J.hn, J.hpg, fun i h0 h1 => ?_, J.hgr, J.hp4, fun i h0 h1 => ?_, fun k k0 k1 => ?_⟩
  · by_cases c : i = u
    · rw [c, upI_s]; exact hG
    · rw [upI_n _ _ c]; exact J.hsp i h0 h1
  · rw [upI_n _ _ (by omega)]; exact J.hre i h0 h1
  · have w := J.hno k k0 k1
    refine ⟨w.1, w.2.1, fun z => ?_⟩
    by_cases c : k = u
    · rw [c, upI_s]; exact hs (c ▸ z)
    · rw [upI_n _ _ c]; exact w.2.2 z
theorem jv_in (J : JV sp se al n pg) {q mn : Int} (hq : 1 ≤ q ∧ q ≤ pg + 1 ∧ 1 ≤ mn ∧ pg + mn ≤ 300) : JV (fun i => mvd (sp i) q mn (sp i).1) se al n (pg + mn) := by
  have hpg := J.hpg
  exact ⟨J.hn, by omega, fun i h0 h1 => ⟨(mvd_vl (J.hsp i h0 h1).1 ⟨hq.1, hq.2.1⟩ hq.2.2.1).1, (J.hsp i h0 h1).2⟩, J.hgr, J.hp4, J.hre, J.hno⟩
theorem jv_out (J : JV sp se al n pg) {q : Int} (hp : 1 < pg) (hR : ∀ i : Int, 0 ≤ i → i < n → VL (hs i) (pg - 1) ∧ ∀ r, cov (hs i) r ↔ cov (sp i) (if r < q then r else r + 1)) (h8 : ∀ i : Int, 0 ≤ i → i < n → (hs i).1 ≤ 8) (hz : ∀ i : Int, n ≤ i → i < 24 → (hs i).1 = 0) : JV hs se al n (pg - 1) := by
  have hpg := J.hpg
  refine ⟨J.hn, by omega, fun i h0 h1 => ⟨(hR i h0 h1).1, h8 i h0 h1⟩, J.hgr, J.hp4, fun i h0 h1 => ⟨hz i h0 h1, (J.hre i h0 h1).2⟩, fun i h0 h1 => ⟨(J.hno i h0 h1).1, (J.hno i h0 h1).2.1, fun z => ?_⟩⟩
  have w := (J.hno i h0 h1).2.2 z
  have v := (hR i h0 h1).1
  apply Classical.byContradiction
  intro c
  have v0 := v.1
  have v2 := v.2.2.1 0 (Int.le_refl _) (by omega)
  exact cov_z w _ (((hR i h0 h1).2 _).mp ⟨0, Int.le_refl _, by omega, Int.le_refl _, v2.2.1⟩)
end JVs
/-- the class's world, told of its spans by what counts -/
def CA (E : EN) (ad : Int → Nat) (sp : Int → SpT) (se : Int → Int) (al : Int → Nat) (n pg : Int) (H : Heap) : Prop := ∃ x : (Int → SpT) × (Int → Int), SE x.1 sp 24 ∧ CW E ad x.1 se al x.2 n pg H
section CAs
variable {E : EN} {ad : Int → Nat} {sp hs : Int → SpT} {se : Int → Int} {al : Int → Nat} {ta : Int → Int} {n pg : Int} {H H1 : Heap}
theorem CA.of (h : CW E ad hs se al ta n pg H) (hE : SE hs sp 24) : CA E ad sp se al n pg H := ⟨(hs, ta), hE, h⟩
theorem CA.ot (h : CT E ad hs se al n pg H) (hE : SE hs sp 24) : CA E ad sp se al n pg H := by
  obtain ⟨t, h⟩ := h
  exact CA.of h hE
theorem CA.oq (h : CQ E ad se al n pg (fun i g => g = hs i) H) (hE : SE hs sp 24) : CA E ad sp se al n pg H := by
  obtain ⟨h2, t, hR, h⟩ := h
  exact CA.of h ((SE.of hR).tr hE)
theorem CA.toSE {s2 : Int → SpT} (h : CA E ad sp se al n pg H) (hE : SE sp s2 24) : CA E ad s2 se al n pg H := by
  obtain ⟨x, hx, h⟩ := h
  exact ⟨x, hx.tr hE, h⟩
theorem CA.x (h : CA E ad sp se al n pg H) : ∃ fs, va_at E.1 vwCl (ad 0, .inr (1, fs)) H := by
  obtain ⟨x, -, h⟩ := h
  exact ⟨_, cw_x h⟩
theorem CA.kept (h : CA E ad sp se al n pg H) (oq : ∀ q : Nat, AX ad q → H1[q]? = H[q]?) : CA E ad sp se al n pg H1 := by
  obtain ⟨x, hx, h⟩ := h
  exact ⟨x, hx, cw_kept h (fun k hk => oq _ (ax_in hk))⟩
theorem ca_lt (h : CW E ad sp se al ta n pg H) {k : Int} (hk : 0 ≤ k ∧ k < 86) : ad k < H.size := by
  by_cases c : k < 5
  · rcases (show k = 0 ∨ k = 1 ∨ k = 2 ∨ k = 3 ∨ k = 4 by omega) with rfl | rfl | rfl | rfl | rfl
    · exact (cw_x h).lt
    · exact (cw_b h).lt
    · exact (cw_se h).lt
    · exact (cw_al h).lt
    · exact (cw_ta h).lt
  · have w := h.2.2.2.2.2 ((k - 5) / 3) (by omega)
    rcases (show k = 5 + 3 * ((k - 5) / 3) ∨ k = 6 + 3 * ((k - 5) / 3) ∨ k = 7 + 3 * ((k - 5) / 3) by omega) with e | e | e
    · rw [e]; exact w.1.lt
    · rw [e]; exact w.2.1.lt
    · rw [e]; exact w.2.2.lt
theorem CA.lw : LW (CA E ad sp se al n pg) := by
  intro H H1 h _ hq
  obtain ⟨x, hx, h⟩ := h
  exact ⟨x, hx, cw_kept h (fun k hk => hq _ (ca_lt h hk))⟩
end CAs
theorem SX.far {E : EN} {zc sm : Nat} {S : SA} {sp : Int → SpT} {se : Int → Int} {n : Int} {H H1 : Heap} (h : SX E zc sm S sp se n H) (oq : ∀ q : Nat, q < H.size → zc ≤ q → H1[q]? = H[q]?) : SX E zc sm S sp se n H1 := by
  have ht := h.tg
  refine ⟨h.1.kept (oq _ h.1.lt ht.g3), h.2.1.kept (oq _ h.2.1.lt ht.g1), h.2.2.1.kept (oq _ h.2.2.1.lt ht.g2), fun u h0 h1 => ⟨⟨(h.2.2.2.1 u h0 h1).1.1.kept (oq _ (h.2.2.2.1 u h0 h1).1.1.lt (ht.ge ?_)), fun k k0 k1 => ((h.2.2.2.1 u h0 h1).1.2 k k0 k1).kept (oq _ ((h.2.2.2.1 u h0 h1).1.2 k k0 k1).lt (ht.ge ?_))⟩, (h.2.2.2.1 u h0 h1).2.kept (oq _ (h.2.2.2.1 u h0 h1).2.lt (ht.ge ?_))⟩, ht⟩
  · show sO S (sB S u) ≠ _; rw [(ht.2.2.2.2.2 u h0 h1).1.1]; omega
  · show sO S (sR S u k) ≠ _; rw [(ht.2.2.2.2.2 u h0 h1).2.2.2 k k0 k1]; omega
  · show sO S (sD S u) ≠ _; rw [(ht.2.2.2.2.2 u h0 h1).1.2]; omega
/-! contracts over another world -/
theorem met_exi {l : Launch} {y : MethodName} {ws : List Cond} {rm : Room} {E : EN} {As : List Value} {α : Type} {P : α → Prop} {W : α → Heap → Prop} {Qc : Array Value → State → Outcome → State → Prop} {mc ms : Nat} {A : Nat → Prop}
    (h : ∀ x : α, P x → Met l y ws rm (CI E As (W x)) Qc mc ms A) : Met l y ws rm (CI E As (fun H => ∃ x, P x ∧ W x H)) Qc mc ms A := by
  intro p e h1 h2 h3 s m args below hf ha hP hk
  obtain ⟨e0, hK, x, hx, hw⟩ := hP
  exact h x hx p e h1 h2 h3 s m args below hf ha ⟨e0, hK, hw⟩ hk
theorem met_up {l : Launch} {y : MethodName} {ws : List Cond} {rm : Room} {Pc : Array Value → State → Prop} {ov ov2 : Option Value} {W2 W3 : Heap → Prop} {mc ms : Nat} {A A3 : Nat → Prop}
    (h : Met l y ws rm Pc (QW ov W2 A) mc ms A) (ho : ov = ov2) (hw : ∀ H, W2 H → W3 H) (hA : ∀ q, A q → A3 q) : Met l y ws rm Pc (QW ov2 W3 A3) mc ms A3 := by
  subst ho
  intro p e h1 h2 h3 s m args below hf ha hP hk
  obtain ⟨n, o, g1, g2, g3, ⟨q1, q2, q3⟩, L, hL, hq⟩ := h p e h1 h2 h3 s m args below hf ha hP hk
  exact ⟨n, o, g1, g2, g3, ⟨q1, hw _ q2, q3.1, fun q a b => q3.2 q a (fun z => b (hA q z))⟩, L, hL, fun q z => hA _ (hq q z)⟩
theorem vx_exi {l : Launch} {y : MethodName} {ws : List Cond} {rm : Room} {E : EN} {bs : Nat} {As : List Value} {α : Type} {P : α → Prop} {W : α → Heap → Prop} {Qc : Array Value → State → Outcome → State → Prop} {XC : String → State → State → Prop} {mc ms : Nat} {A : Nat → Prop}
    (h : ∀ x : α, P x → vx_Met l y ws rm (CX E bs As (W x)) Qc XC mc ms A) : vx_Met l y ws rm (CX E bs As (fun H => ∃ x, P x ∧ W x H)) Qc XC mc ms A := by
  intro p e h1 h2 h3 s m args below hf ha hP hk
  obtain ⟨e0, hK, ⟨x, hx, hw⟩, hX⟩ := hP
  exact h x hx p e h1 h2 h3 s m args below hf ha ⟨e0, hK, hw, hX⟩ hk
