/-! WHAT THE CLASS AND THE MODEL SHARE -/
def INV (sp : Int → SpT) (se : Int → Int) (al : Int → Nat) (n pg : Int) (on : Int → Int) : Prop := (0 ≤ n ∧ n ≤ 24) ∧ (1 ≤ pg ∧ pg ≤ 300) ∧ (SPV sp n pg) ∧ (∀ k, on k = 0 ∨ on k = 1) ∧ (RPS on sp n) ∧ (GR se al n) ∧ (∀ u : Int, 0 ≤ u → u < n → pop (al u) 24 ≤ 4) ∧ (∀ h : Int, n ≤ h → h < 24 → (sp h).1 = 0 ∧ al h = 0 ∧ ∀ r : Int, 0 ≤ r → r ≤ 301 → on (302 * h + r) = 0)
theorem INV.hn {sp : Int → SpT} {se : Int → Int} {al : Int → Nat} {n pg : Int} {on : Int → Int} (I : INV sp se al n pg on) : 0 ≤ n ∧ n ≤ 24 := I.1
theorem INV.hpg {sp : Int → SpT} {se : Int → Int} {al : Int → Nat} {n pg : Int} {on : Int → Int} (I : INV sp se al n pg on) : 1 ≤ pg ∧ pg ≤ 300 := I.2.1
theorem INV.hsp {sp : Int → SpT} {se : Int → Int} {al : Int → Nat} {n pg : Int} {on : Int → Int} (I : INV sp se al n pg on) : SPV sp n pg := I.2.2.1
theorem INV.hon {sp : Int → SpT} {se : Int → Int} {al : Int → Nat} {n pg : Int} {on : Int → Int} (I : INV sp se al n pg on) : ∀ k, on k = 0 ∨ on k = 1 := I.2.2.2.1
theorem INV.hrl {sp : Int → SpT} {se : Int → Int} {al : Int → Nat} {n pg : Int} {on : Int → Int} (I : INV sp se al n pg on) : RPS on sp n := I.2.2.2.2.1
theorem INV.hgr {sp : Int → SpT} {se : Int → Int} {al : Int → Nat} {n pg : Int} {on : Int → Int} (I : INV sp se al n pg on) : GR se al n := I.2.2.2.2.2.1
theorem INV.hp4 {sp : Int → SpT} {se : Int → Int} {al : Int → Nat} {n pg : Int} {on : Int → Int} (I : INV sp se al n pg on) : ∀ u : Int, 0 ≤ u → u < n → pop (al u) 24 ≤ 4 := I.2.2.2.2.2.2.1
theorem INV.hre {sp : Int → SpT} {se : Int → Int} {al : Int → Nat} {n pg : Int} {on : Int → Int} (I : INV sp se al n pg on) : ∀ h : Int, n ≤ h → h < 24 → (sp h).1 = 0 ∧ al h = 0 ∧ ∀ r : Int, 0 ≤ r → r ≤ 301 → on (302 * h + r) = 0 := I.2.2.2.2.2.2.2
theorem vl_z {g : SpT} (h : g.1 = 0) (pg : Int) : VL g pg := ⟨by omega, by omega, fun k h0 h1 => by omega, fun k h0 h1 => by omega⟩
theorem cov_z {g : SpT} (h : g.1 = 0) (q : Int) : ¬ cov g q := fun ⟨k, k0, k1, _⟩ => by omega
theorem inv_0 {sp : Int → SpT} {se : Int → Int} {al : Int → Nat} {on : Int → Int} (h1 : ∀ h : Int, 0 ≤ h → h < 24 → (sp h).1 = 0) (h2 : ∀ h, al h = 0) (h3 : ∀ k, on k = 0) : INV sp se al 0 100 on :=
  ⟨by decide, by decide, fun i h0 h1 => by omega, fun k => Or.inl (h3 k), fun h h0 h1 => by omega, ⟨fun k h0 h1 => by omega, fun k h0 h1 => by omega⟩, fun u h0 h1 => by omega, fun h h0 h4 => ⟨h1 h h0 h4, h2 h, fun r _ _ => h3 _⟩⟩
section INVS
variable {sp hs : Int → SpT} {se : Int → Int} {al : Int → Nat} {n pg : Int} {on oo : Int → Int}
theorem inv_same (I : INV sp se al n pg on) (h : ∀ i : Int, 0 ≤ i → i < 24 → hs i = sp i) : INV hs se al n pg on := by
  have hn := I.hn
  refine ⟨hn, I.hpg, fun i h0 h1 => ?_, I.hon, fun i h0 h1 q q0 q1 => ?_, I.hgr, I.hp4, fun i h0 h1 => ?_⟩
  · rw [h i h0 (by omega)]; exact I.hsp i h0 h1
  · rw [h i h0 (by omega)]; exact I.hrl i h0 h1 q q0 q1
  · rw [h i (by omega) h1]; exact I.hre i h0 h1
theorem inv_add (I : INV sp se al n pg on) (h : n < 24) : INV sp (upI se n (-1)) al (n + 1) pg on := by
  have hn := I.hn
  have hz := I.hre n (Int.le_refl _) h
  refine ⟨by omega, I.hpg, fun i h0 h1 => ?_, I.hon, fun i h0 h1 q q0 q1 => ?_, ⟨fun k h0 h1 => ?_, fun k h0 h1 => ?_⟩, fun u h0 h1 => ?_, fun i h0 h1 => I.hre i (by omega) h1⟩
  · by_cases c : i = n
    · rw [c]; exact ⟨vl_z hz.1 pg, by omega⟩
    · exact I.hsp i h0 (by omega)
  · by_cases c : i = n
    · rw [c, hz.2.2 q q0 q1]
      exact ⟨fun z => absurd z (by decide), fun z => (cov_z hz.1 q z).elim⟩
    · exact I.hrl i h0 (by omega) q q0 q1
  · rw [upI_if]
    by_cases c : k = n
    · rw [if_pos c]; omega
    · rw [if_neg c]; have z := I.hgr.1 k h0 (by omega); omega
  · by_cases c : k = n
    · rw [c, hz.2.1]; exact Nat.pow_pos (by decide)
    · exact Nat.lt_of_lt_of_le (I.hgr.2 k h0 (by omega)) (Nat.pow_le_pow_right (by decide) (by omega))
  · by_cases c : u = n
    · rw [c, hz.2.1, show pop 0 24 = 0 by decide]; decide
    · exact I.hp4 u h0 (by omega)
theorem inv_see (I : INV sp se al n pg on) {u o : Int} (hu : 0 ≤ u ∧ u < n) (ho : -1 ≤ o ∧ o < n) : INV sp (upI se u o) al n pg on := by
  refine ⟨I.hn, I.hpg, I.hsp, I.hon, I.hrl, ⟨fun k h0 h1 => ?_, I.hgr.2⟩, I.hp4, I.hre⟩
  rw [upI_if]
  by_cases c : k = u
  · rw [if_pos c]; exact ho
  · rw [if_neg c]; exact I.hgr.1 k h0 h1
theorem inv_also (I : INV sp se al n pg on) {u o : Int} (hu : 0 ≤ u ∧ u < n) (ho : 0 ≤ o ∧ o < n) (h4 : pop (al u ^^^ 2 ^ o.toNat) 24 ≤ 4) : INV sp se (upI al u (al u ^^^ 2 ^ o.toNat)) n pg on := by
  have hn := I.hn
  refine ⟨hn, I.hpg, I.hsp, I.hon, I.hrl, ⟨I.hgr.1, fun k h0 h1 => ?_⟩, fun k h0 h1 => ?_, fun h h0 h1 => ?_⟩
  · rw [upI_if]
    by_cases c : k = u
    · rw [if_pos c]; exact Nat.xor_lt_two_pow (I.hgr.2 u hu.1 hu.2) (Nat.pow_lt_pow_right (by decide) (by omega))
    · rw [if_neg c]; exact I.hgr.2 k h0 h1
  · rw [upI_if]
    by_cases c : k = u
    · rw [if_pos c]; exact h4
    · rw [if_neg c]; exact I.hp4 k h0 h1
  · rw [upI_if, if_neg (by omega)]; exact I.hre h h0 h1
theorem inv_pages (I : INV sp se al n pg on) {u fr to v : Int} {Q : Int → Prop} (hu : 0 ≤ u ∧ u < n) (hf : 1 ≤ fr ∧ fr ≤ to ∧ to ≤ pg) (hv : v = 0 ∨ v = 1) (hR : ∀ i : Int, 0 ≤ i → i < 24 → (i ≠ u → hs i = sp i) ∧ (i = u → VL (hs i) pg ∧ ∀ q, cov (hs i) q ↔ Q q)) (h8 : (spS Q 0 pg.toNat).1 ≤ 8) (hQ : ∀ q, Q q ↔ (if fr ≤ q ∧ q ≤ to then v = 1 else cov (sp u) q)) : INV hs se al n pg (ptO on (302 * u + fr) (302 * u + to) v) := by
  have hn := I.hn
  have hpg := I.hpg
  have hU := (hR u hu.1 (by omega)).2 rfl
  refine ⟨hn, hpg, fun i h0 h1 => ?_, ptO_01 I.hon hv, fun i h0 h1 q q0 q1 => ?_, I.hgr, I.hp4, fun i h0 h1 => ?_⟩
  · by_cases c : i = u
    · rw [c]
      refine ⟨hU.1, ?_⟩
      rw [vl_ns hU.1 (by omega), spS_c (fun q _ _ => hU.2 q)]; exact h8
    · rw [(hR i h0 (by omega)).1 c]; exact I.hsp i h0 h1
  · refine (rl_pt I.hrl hu (a := fr) (b := to) (v := v) (by omega) (h := i) ⟨h0, h1⟩ (q := q) ⟨q0, q1⟩).trans ?_
    by_cases c : i = u
    · rw [if_pos c, c]; exact ((hU.2 q).trans (hQ q)).symm
    · rw [if_neg c, (hR i h0 (by omega)).1 c]
  · have z := I.hre i h0 h1
    rw [(hR i (by omega) h1).1 (by omega)]
    refine ⟨z.1, z.2.1, fun r r0 r1 => ?_⟩
    show ite _ _ _ = _
    rw [if_neg (by omega)]; exact z.2.2 r r0 r1
theorem inv_in (I : INV sp se al n pg on) {q mn : Int} (hq : 1 ≤ q ∧ q ≤ pg + 1 ∧ 1 ≤ mn ∧ pg + mn ≤ 300) (hR : ∀ i : Int, 0 ≤ i → i < 24 → (i < n → hs i = mvd (sp i) q mn (sp i).1) ∧ (n ≤ i → hs i = sp i)) (h01 : ∀ k, oo k = 0 ∨ oo k = 1) (hlo : ∀ h : Int, 0 ≤ h → h < n → ∀ r : Int, 0 ≤ r → r ≤ 301 → (oo (302 * h + r) = 1 ↔ PM (sp h) q mn r)) (hhi : ∀ h : Int, n ≤ h → h < 24 → ∀ r : Int, 0 ≤ r → r ≤ 301 → oo (302 * h + r) = on (302 * h + r)) : INV hs se al n (pg + mn) oo := by
  have hn := I.hn
  have hpg := I.hpg
  refine ⟨hn, by omega, fun i h0 h1 => ?_, h01, fun i h0 h1 r r0 r1 => ?_, I.hgr, I.hp4, fun i h0 h1 => ?_⟩
  · rw [(hR i h0 (by omega)).1 h1]
    exact ⟨(mvd_vl (I.hsp i h0 h1).1 ⟨hq.1, hq.2.1⟩ hq.2.2.1).1, (I.hsp i h0 h1).2⟩
  · rw [(hR i h0 (by omega)).1 h1]
    exact (hlo i h0 h1 r r0 r1).trans ((mvd_vl (I.hsp i h0 h1).1 ⟨hq.1, hq.2.1⟩ hq.2.2.1).2 r).symm
  · have z := I.hre i h0 h1
    rw [(hR i (by omega) h1).2 h0]
    exact ⟨z.1, z.2.1, fun r r0 r1 => (hhi i h0 h1 r r0 r1).trans (z.2.2 r r0 r1)⟩
theorem inv_out (I : INV sp se al n pg on) {q : Int} (hq : 1 ≤ q ∧ q ≤ pg ∧ 1 < pg) (hR : ∀ i : Int, 0 ≤ i → i < 24 → (i < n → VL (hs i) (pg - 1) ∧ (hs i).1 ≤ 8 ∧ ∀ r, cov (hs i) r ↔ cov (sp i) (if r < q then r else r + 1)) ∧ (n ≤ i → hs i = sp i)) (h01 : ∀ k, oo k = 0 ∨ oo k = 1) (hlo : ∀ h : Int, 0 ≤ h → h < n → ∀ r : Int, 0 ≤ r → r ≤ 301 → (oo (302 * h + r) = 1 ↔ cov (sp h) (if r < q then r else r + 1))) (hhi : ∀ h : Int, n ≤ h → h < 24 → ∀ r : Int, 0 ≤ r → r ≤ 301 → oo (302 * h + r) = on (302 * h + r)) : INV hs se al n (pg - 1) oo := by
  have hn := I.hn
  have hpg := I.hpg
  refine ⟨hn, by omega, fun i h0 h1 => ?_, h01, fun i h0 h1 r r0 r1 => ?_, I.hgr, I.hp4, fun i h0 h1 => ?_⟩
  · have z := (hR i h0 (by omega)).1 h1
    exact ⟨z.1, z.2.1⟩
  · exact (hlo i h0 h1 r r0 r1).trans (((hR i h0 (by omega)).1 h1).2.2 r).symm
  · have z := I.hre i h0 h1
    rw [(hR i (by omega) h1).2 h0]
    exact ⟨z.1, z.2.1, fun r r0 r1 => (hhi i h0 h1 r r0 r1).trans (z.2.2 r r0 r1)⟩
end INVS
