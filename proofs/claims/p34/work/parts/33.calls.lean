/-! THE CLASS'S CALLS, over the world that tells of its spans by what counts -/
theorem vx_up {l : Launch} {y : MethodName} {ws : List Cond} {rm : Room} {Pc : Array Value → State → Prop} {X : String} {W2 W3 : Heap → Prop} {mc ms : Nat} {A A3 : Nat → Prop}
    (h : vx_Met l y ws rm Pc QF (XW X W2 A) mc ms A) (hw : ∀ H, W2 H → W3 H) (hA : ∀ q, A q → A3 q) : vx_Met l y ws rm Pc QF (XW X W3 A3) mc ms A3 := by
  intro p e h1 h2 h3 s m args below hf ha hP hk
  obtain ⟨n, o, g1, g2, g3, h4⟩ := h p e h1 h2 h3 s m args below hf ha hP hk
  refine ⟨n, o, g1, g2, g3, ?_⟩
  rcases h4 with ⟨z, -⟩ | ⟨q, ho, E0, ce, L, ⟨q1, q2, q3⟩, h5, h6, h7, h8, h9, h10⟩
  · exact z.elim
  · exact Or.inr ⟨q, ho, E0, ce, L, ⟨q1, hw _ q2, q3.1, fun q a b => q3.2 q a (fun z => b (hA q z))⟩, h5, h6, h7, h8, h9, fun z hz => hA _ (h10 z hz)⟩
theorem sp_put {sp xs hs : Int → SpT} {n pg u : Int} {G : SpT} {Q Q2 : Int → Prop} (hx : SE xs sp 24) (hu : 0 ≤ u ∧ u < n) (hn : n ≤ 24) (hG : VL G pg ∧ ∀ q, cov G q ↔ Q q) (hR : ∀ i : Int, 0 ≤ i → i < 24 → (i ≠ u → hs i = xs i) ∧ (i = u → VL (hs i) pg ∧ ∀ q, cov (hs i) q ↔ Q2 q)) (hQ : ∀ q, Q2 q ↔ Q q) : SE hs (upI sp u G) 24 := by
  intro i i0 i1
  by_cases c : i = u
  · have w := (hR i i0 i1).2 c
    rw [c] at w ⊢
    rw [upI_s]
    exact vl_uniq w.1 hG.1 (fun q => (w.2 q).trans ((hQ q).trans (hG.2 q).symm))
  · rw [upI_n _ _ c, (hR i i0 i1).1 c]; exact hx i i0 i1
theorem sp_in {sp xs hs : Int → SpT} {se : Int → Int} {al : Int → Nat} {n pg q mn : Int} (J : JV sp se al n pg) (hx : SE xs sp 24) (hR : ∀ i : Int, 0 ≤ i → i < 24 → (i < n → hs i = mvd (xs i) q mn (xs i).1) ∧ (n ≤ i → hs i = xs i)) : SE hs (fun i => mvd (sp i) q mn (sp i).1) 24 := by
  intro i i0 i1
  have w := hx i i0 i1
  by_cases c : i < n
  · rw [(hR i i0 i1).1 c]
    refine ⟨w.1, fun k k0 k1 => ?_⟩
    have k1 : k < (xs i).1 := k1
    have e := w.2 k k0 k1
    constructor
    · show (if 0 ≤ k ∧ k < (xs i).1 ∧ q ≤ (xs i).2.1 k then (xs i).2.1 k + mn else (xs i).2.1 k) = (if 0 ≤ k ∧ k < (sp i).1 ∧ q ≤ (sp i).2.1 k then (sp i).2.1 k + mn else (sp i).2.1 k)
      rw [w.1, e.1]
    · show (if 0 ≤ k ∧ k < (xs i).1 ∧ q ≤ (xs i).2.2 k then (xs i).2.2 k + mn else (xs i).2.2 k) = (if 0 ≤ k ∧ k < (sp i).1 ∧ q ≤ (sp i).2.2 k then (sp i).2.2 k + mn else (sp i).2.2 k)
      rw [w.1, e.2]
  · rw [(hR i i0 i1).2 (by omega)]
    have z := (J.hre i (by omega) i1).1
    exact ⟨w.1, fun k k0 k1 => by have := w.1; omega⟩
theorem sp_out {sp xs hs h2 : Int → SpT} {se : Int → Int} {al : Int → Nat} {n pg q : Int} (J : JV sp se al n pg) (hx : SE xs sp 24) (hG : ∀ i : Int, 0 ≤ i → i < n → VL (h2 i) (pg - 1) ∧ ∀ r, cov (h2 i) r ↔ cov (sp i) (if r < q then r else r + 1)) (hz : ∀ i : Int, n ≤ i → i < 24 → (h2 i).1 = 0) (hR : ∀ i : Int, 0 ≤ i → i < 24 → (i < n → VL (hs i) (pg - 1) ∧ (hs i).1 ≤ 8 ∧ ∀ r, cov (hs i) r ↔ cov (xs i) (if r < q then r else r + 1)) ∧ (n ≤ i → hs i = xs i)) : SE hs h2 24 := by
  intro i i0 i1
  by_cases c : i < n
  · have w := (hR i i0 i1).1 c
    have v := hG i i0 c
    exact vl_uniq w.1 v.1 (fun r => (w.2.2 r).trans ((hx.cov ⟨i0, i1⟩ _).trans (v.2 r).symm))
  · rw [(hR i i0 i1).2 (by omega)]
    have z := (J.hre i (by omega) i1).1
    have w := hx i i0 i1
    have y := hz i (by omega) i1
    exact ⟨by omega, fun k k0 k1 => by omega⟩
set_option maxHeartbeats 4000000 in
theorem q_bookPages (l : Launch) (E : EN) {ad : Int → Nat} (hj : INJ ad) {sp : Int → SpT} {se : Int → Int} {al : Int → Nat} {n pg : Int} (J : JV sp se al n pg)   : Met l yX1_bookPages wsX1_bookPages ({ frames := 0, cells := 0, slots := 0, locals := 0 }) (CI E [.ref (ad 0)] (CA E ad sp se al n pg)) (QW (some (.int (iI (pg)))) (CA E ad sp se al n pg) (AX ad)) 0 0 (AX ad) := by
  refine met_exi (P := fun x : (Int → SpT) × (Int → Int) => SE x.1 sp 24) (W := fun x => CW E ad x.1 se al x.2 n pg) (fun x hx => ?_)
  have J1 := J.toSE hx
  have hxn : SE x.1 sp n := hx.mono J.hn.2
  have hpg := J.hpg
  exact met_up (m_X1_bookPages l E hj x.1 se al x.2 n pg ) (rfl) (fun _ h => CA.of h hx) (fun _ q => q.elim)
set_option maxHeartbeats 4000000 in
theorem q_headings (l : Launch) (E : EN) {ad : Int → Nat} (hj : INJ ad) {sp : Int → SpT} {se : Int → Int} {al : Int → Nat} {n pg : Int} (J : JV sp se al n pg)   : Met l yX1_headings wsX1_headings ({ frames := 0, cells := 0, slots := 0, locals := 0 }) (CI E [.ref (ad 0)] (CA E ad sp se al n pg)) (QW (some (.int (iI (n)))) (CA E ad sp se al n pg) (AX ad)) 0 0 (AX ad) := by
  refine met_exi (P := fun x : (Int → SpT) × (Int → Int) => SE x.1 sp 24) (W := fun x => CW E ad x.1 se al x.2 n pg) (fun x hx => ?_)
  have J1 := J.toSE hx
  have hxn : SE x.1 sp n := hx.mono J.hn.2
  have hpg := J.hpg
  exact met_up (m_X1_headings l E hj x.1 se al x.2 n pg ) (rfl) (fun _ h => CA.of h hx) (fun _ q => q.elim)
set_option maxHeartbeats 4000000 in
theorem q_spansOf (l : Launch) (E : EN) {ad : Int → Nat} (hj : INJ ad) {sp : Int → SpT} {se : Int → Int} {al : Int → Nat} {n pg : Int} (J : JV sp se al n pg) (u : Int) (hu : 0 ≤ u ∧ u < n) : Met l yX1_spansOf wsX1_spansOf ({ frames := 2, cells := 0, slots := 0, locals := 43 }) (CI E [.ref (ad 0), .int (iI u)] (CA E ad sp se al n pg)) (QW (some (.int (iI ((sp u).1)))) (CA E ad sp se al n pg) (AX ad)) 0 0 (AX ad) := by
  refine met_exi (P := fun x : (Int → SpT) × (Int → Int) => SE x.1 sp 24) (W := fun x => CW E ad x.1 se al x.2 n pg) (fun x hx => ?_)
  have J1 := J.toSE hx
  have hxn : SE x.1 sp n := hx.mono J.hn.2
  have hpg := J.hpg
  exact met_up (m_X1_spansOf l E hj x.1 se al x.2 n pg u hu J1.hn) (by rw [(hxn u hu.1 hu.2).1]) (fun _ h => CA.of h hx) (fun _ q => q.elim)
set_option maxHeartbeats 4000000 in
theorem q_startOf (l : Launch) (E : EN) {ad : Int → Nat} (hj : INJ ad) {sp : Int → SpT} {se : Int → Int} {al : Int → Nat} {n pg : Int} (J : JV sp se al n pg) (u k : Int) (hu : 0 ≤ u ∧ u < n) (hk : 0 ≤ k ∧ k < (sp u).1) : Met l yX1_startOf wsX1_startOf ({ frames := 3, cells := 0, slots := 0, locals := 65 }) (CI E [.ref (ad 0), .int (iI u), .int (iI k)] (CA E ad sp se al n pg)) (QW (some (.int (iI ((sp u).2.1 k)))) (CA E ad sp se al n pg) (AX ad)) 0 0 (AX ad) := by
  refine met_exi (P := fun x : (Int → SpT) × (Int → Int) => SE x.1 sp 24) (W := fun x => CW E ad x.1 se al x.2 n pg) (fun x hx => ?_)
  have J1 := J.toSE hx
  have hxn : SE x.1 sp n := hx.mono J.hn.2
  have hpg := J.hpg
  exact met_up (m_X1_startOf l E hj x.1 se al x.2 n pg u k hu J1.hn J1.hpg J1.hsp (by rw [(hxn u hu.1 hu.2).1]; exact hk)) (by rw [((hxn u hu.1 hu.2).2 k hk.1 (by rw [(hxn u hu.1 hu.2).1]; exact hk.2)).1]) (fun _ h => CA.of h hx) (fun _ q => q.elim)
set_option maxHeartbeats 4000000 in
theorem q_endOf (l : Launch) (E : EN) {ad : Int → Nat} (hj : INJ ad) {sp : Int → SpT} {se : Int → Int} {al : Int → Nat} {n pg : Int} (J : JV sp se al n pg) (u k : Int) (hu : 0 ≤ u ∧ u < n) (hk : 0 ≤ k ∧ k < (sp u).1) : Met l yX1_endOf wsX1_endOf ({ frames := 3, cells := 0, slots := 0, locals := 65 }) (CI E [.ref (ad 0), .int (iI u), .int (iI k)] (CA E ad sp se al n pg)) (QW (some (.int (iI ((sp u).2.2 k)))) (CA E ad sp se al n pg) (AX ad)) 0 0 (AX ad) := by
  refine met_exi (P := fun x : (Int → SpT) × (Int → Int) => SE x.1 sp 24) (W := fun x => CW E ad x.1 se al x.2 n pg) (fun x hx => ?_)
  have J1 := J.toSE hx
  have hxn : SE x.1 sp n := hx.mono J.hn.2
  have hpg := J.hpg
  exact met_up (m_X1_endOf l E hj x.1 se al x.2 n pg u k hu J1.hn J1.hpg J1.hsp (by rw [(hxn u hu.1 hu.2).1]; exact hk)) (by rw [((hxn u hu.1 hu.2).2 k hk.1 (by rw [(hxn u hu.1 hu.2).1]; exact hk.2)).2]) (fun _ h => CA.of h hx) (fun _ q => q.elim)
set_option maxHeartbeats 4000000 in
theorem q_pagesOf (l : Launch) (E : EN) {ad : Int → Nat} (hj : INJ ad) {sp : Int → SpT} {se : Int → Int} {al : Int → Nat} {n pg : Int} (J : JV sp se al n pg) (u : Int) (hu : 0 ≤ u ∧ u < n) : Met l yX1_pagesOf wsX1_pagesOf ({ frames := 2, cells := 0, slots := 0, locals := 43 }) (CI E [.ref (ad 0), .int (iI u)] (CA E ad sp se al n pg)) (QW (some (.int (iI (PGS (sp u))))) (CA E ad sp se al n pg) (AX ad)) 0 0 (AX ad) := by
  refine met_exi (P := fun x : (Int → SpT) × (Int → Int) => SE x.1 sp 24) (W := fun x => CW E ad x.1 se al x.2 n pg) (fun x hx => ?_)
  have J1 := J.toSE hx
  have hxn : SE x.1 sp n := hx.mono J.hn.2
  have hpg := J.hpg
  exact met_up (m_X1_pagesOf l E hj x.1 se al x.2 n pg u hu J1.hn J1.hpg J1.hsp) (by rw [show PGS (x.1 u) = PGS (sp u) from hxn.pgs hu]) (fun _ h => CA.of h hx) (fun _ q => q.elim)
set_option maxHeartbeats 4000000 in
theorem q_seeOf (l : Launch) (E : EN) {ad : Int → Nat} (hj : INJ ad) {sp : Int → SpT} {se : Int → Int} {al : Int → Nat} {n pg : Int} (J : JV sp se al n pg) (u : Int) (hu : 0 ≤ u ∧ u < n) : Met l yX1_seeOf wsX1_seeOf ({ frames := 2, cells := 0, slots := 0, locals := 42 }) (CI E [.ref (ad 0), .int (iI u)] (CA E ad sp se al n pg)) (QW (some (.int (iI (se u)))) (CA E ad sp se al n pg) (AX ad)) 0 0 (AX ad) := by
  refine met_exi (P := fun x : (Int → SpT) × (Int → Int) => SE x.1 sp 24) (W := fun x => CW E ad x.1 se al x.2 n pg) (fun x hx => ?_)
  have J1 := J.toSE hx
  have hxn : SE x.1 sp n := hx.mono J.hn.2
  have hpg := J.hpg
  exact met_up (m_X1_seeOf l E hj x.1 se al x.2 n pg u hu J1.hn) (rfl) (fun _ h => CA.of h hx) (fun _ q => q.elim)
set_option maxHeartbeats 4000000 in
theorem q_seeAlsosOf (l : Launch) (E : EN) {ad : Int → Nat} (hj : INJ ad) {sp : Int → SpT} {se : Int → Int} {al : Int → Nat} {n pg : Int} (J : JV sp se al n pg) (u : Int) (hu : 0 ≤ u ∧ u < n) : Met l yX1_seeAlsosOf wsX1_seeAlsosOf ({ frames := 2, cells := 0, slots := 0, locals := 42 }) (CI E [.ref (ad 0), .int (iI u)] (CA E ad sp se al n pg)) (QW (some (.int (iI (((pop (al u) 24 : Nat) : Int))))) (CA E ad sp se al n pg) (AX ad)) 0 0 (AX ad) := by
  refine met_exi (P := fun x : (Int → SpT) × (Int → Int) => SE x.1 sp 24) (W := fun x => CW E ad x.1 se al x.2 n pg) (fun x hx => ?_)
  have J1 := J.toSE hx
  have hxn : SE x.1 sp n := hx.mono J.hn.2
  have hpg := J.hpg
  exact met_up (m_X1_seeAlsosOf l E hj x.1 se al x.2 n pg u hu J1.hn J1.hgr) (rfl) (fun _ h => CA.of h hx) (fun _ q => q.elim)
set_option maxHeartbeats 4000000 in
theorem q_leadsTo (l : Launch) (E : EN) {ad : Int → Nat} (hj : INJ ad) {sp : Int → SpT} {se : Int → Int} {al : Int → Nat} {n pg : Int} (J : JV sp se al n pg) (u : Int) (hu : 0 ≤ u ∧ u < n) : Met l yX1_leadsTo wsX1_leadsTo ({ frames := 3, cells := 0, slots := 0, locals := 66 }) (CI E [.ref (ad 0), .int (iI u)] (CA E ad sp se al n pg)) (QW (some (.int (iI (eS se n.toNat u)))) (CA E ad sp se al n pg) (AX ad)) 0 0 (AX ad) := by
  refine met_exi (P := fun x : (Int → SpT) × (Int → Int) => SE x.1 sp 24) (W := fun x => CW E ad x.1 se al x.2 n pg) (fun x hx => ?_)
  have J1 := J.toSE hx
  have hxn : SE x.1 sp n := hx.mono J.hn.2
  have hpg := J.hpg
  exact met_up (m_X1_leadsTo l E hj x.1 se al x.2 n pg u hu J1.hn J1.hgr) (rfl) (fun _ h => CA.of h hx) (fun _ q => q.elim)
set_option maxHeartbeats 4000000 in
theorem q_isOn (l : Launch) (E : EN) {ad : Int → Nat} (hj : INJ ad) {sp : Int → SpT} {se : Int → Int} {al : Int → Nat} {n pg : Int} (J : JV sp se al n pg) (u q : Int) (hu : 0 ≤ u ∧ u < n) (hq : 1 ≤ q ∧ q ≤ pg) : Met l yX1_isOn wsX1_isOn ({ frames := 2, cells := 0, slots := 0, locals := 43 }) (CI E [.ref (ad 0), .int (iI u), .int (iI q)] (CA E ad sp se al n pg)) (QW (some (.int (iI (pI (cov (sp u) q))))) (CA E ad sp se al n pg) (AX ad)) 0 0 (AX ad) := by
  refine met_exi (P := fun x : (Int → SpT) × (Int → Int) => SE x.1 sp 24) (W := fun x => CW E ad x.1 se al x.2 n pg) (fun x hx => ?_)
  have J1 := J.toSE hx
  have hxn : SE x.1 sp n := hx.mono J.hn.2
  have hpg := J.hpg
  exact met_up (m_X1_isOn l E hj x.1 se al x.2 n pg u q hu J1.hn J1.hpg J1.hsp hq) (by rw [pI_c (hxn.cov hu q)]) (fun _ h => CA.of h hx) (fun _ q => q.elim)
set_option maxHeartbeats 4000000 in
theorem q_headingsOn (l : Launch) (E : EN) {ad : Int → Nat} (hj : INJ ad) {sp : Int → SpT} {se : Int → Int} {al : Int → Nat} {n pg : Int} (J : JV sp se al n pg) (q : Int) (hq : 1 ≤ q ∧ q ≤ pg) : Met l yX1_headingsOn wsX1_headingsOn ({ frames := 3, cells := 0, slots := 0, locals := 66 }) (CI E [.ref (ad 0), .int (iI q)] (CA E ad sp se al n pg)) (QW (some (.int (iI (CHN sp n q)))) (CA E ad sp se al n pg) (AX ad)) 0 0 (AX ad) := by
  refine met_exi (P := fun x : (Int → SpT) × (Int → Int) => SE x.1 sp 24) (W := fun x => CW E ad x.1 se al x.2 n pg) (fun x hx => ?_)
  have J1 := J.toSE hx
  have hxn : SE x.1 sp n := hx.mono J.hn.2
  have hpg := J.hpg
  exact met_up (m_X1_headingsOn l E hj x.1 se al x.2 n pg q J1.hn J1.hpg J1.hsp hq) (by rw [show CHN x.1 n q = CHN sp n q from hxn.chn q]) (fun _ h => CA.of h hx) (fun _ q => q.elim)
set_option maxHeartbeats 4000000 in
theorem q_barePages (l : Launch) (E : EN) {ad : Int → Nat} (hj : INJ ad) {sp : Int → SpT} {se : Int → Int} {al : Int → Nat} {n pg : Int} (J : JV sp se al n pg)   : Met l yX1_barePages wsX1_barePages ({ frames := 3, cells := 0, slots := 0, locals := 65 }) (CI E [.ref (ad 0)] (CA E ad sp se al n pg)) (QW (some (.int (iI (BARE sp n pg)))) (CA E ad sp se al n pg) (AX ad)) 0 0 (AX ad) := by
  refine met_exi (P := fun x : (Int → SpT) × (Int → Int) => SE x.1 sp 24) (W := fun x => CW E ad x.1 se al x.2 n pg) (fun x hx => ?_)
  have J1 := J.toSE hx
  have hxn : SE x.1 sp n := hx.mono J.hn.2
  have hpg := J.hpg
  exact met_up (m_X1_barePages l E hj x.1 se al x.2 n pg J1.hn J1.hpg J1.hsp) (by rw [show BARE x.1 n pg = BARE sp n pg from hxn.bare]) (fun _ h => CA.ot h hx) (fun _ q => q)
set_option maxHeartbeats 4000000 in
theorem q_fullestPage (l : Launch) (E : EN) {ad : Int → Nat} (hj : INJ ad) {sp : Int → SpT} {se : Int → Int} {al : Int → Nat} {n pg : Int} (J : JV sp se al n pg)   : Met l yX1_fullestPage wsX1_fullestPage ({ frames := 3, cells := 0, slots := 0, locals := 65 }) (CI E [.ref (ad 0)] (CA E ad sp se al n pg)) (QW (some (.int (iI (FULL sp n pg)))) (CA E ad sp se al n pg) (AX ad)) 0 0 (AX ad) := by
  refine met_exi (P := fun x : (Int → SpT) × (Int → Int) => SE x.1 sp 24) (W := fun x => CW E ad x.1 se al x.2 n pg) (fun x hx => ?_)
  have J1 := J.toSE hx
  have hxn : SE x.1 sp n := hx.mono J.hn.2
  have hpg := J.hpg
  exact met_up (m_X1_fullestPage l E hj x.1 se al x.2 n pg J1.hn J1.hpg J1.hsp) (by rw [show FULL x.1 n pg = FULL sp n pg from hxn.full]) (fun _ h => CA.ot h hx) (fun _ q => q)
set_option maxHeartbeats 4000000 in
theorem q_vainSees (l : Launch) (E : EN) {ad : Int → Nat} (hj : INJ ad) {sp : Int → SpT} {se : Int → Int} {al : Int → Nat} {n pg : Int} (J : JV sp se al n pg)   : Met l yX1_vainSees wsX1_vainSees ({ frames := 3, cells := 0, slots := 0, locals := 66 }) (CI E [.ref (ad 0)] (CA E ad sp se al n pg)) (QW (some (.int (iI (VAIN sp se n)))) (CA E ad sp se al n pg) (AX ad)) 0 0 (AX ad) := by
  refine met_exi (P := fun x : (Int → SpT) × (Int → Int) => SE x.1 sp 24) (W := fun x => CW E ad x.1 se al x.2 n pg) (fun x hx => ?_)
  have J1 := J.toSE hx
  have hxn : SE x.1 sp n := hx.mono J.hn.2
  have hpg := J.hpg
  exact met_up (m_X1_vainSees l E hj x.1 se al x.2 n pg J1.hn J1.hsp J1.hgr) (by rw [show VAIN x.1 se n = VAIN sp se n from hxn.vain J.hgr]) (fun _ h => CA.of h hx) (fun _ q => q.elim)
set_option maxHeartbeats 4000000 in
theorem q_unled (l : Launch) (E : EN) {ad : Int → Nat} (hj : INJ ad) {sp : Int → SpT} {se : Int → Int} {al : Int → Nat} {n pg : Int} (J : JV sp se al n pg)   : Met l yX1_unled wsX1_unled ({ frames := 2, cells := 0, slots := 0, locals := 43 }) (CI E [.ref (ad 0)] (CA E ad sp se al n pg)) (QW (some (.int (iI (UNL se al n)))) (CA E ad sp se al n pg) (AX ad)) 0 0 (AX ad) := by
  refine met_exi (P := fun x : (Int → SpT) × (Int → Int) => SE x.1 sp 24) (W := fun x => CW E ad x.1 se al x.2 n pg) (fun x hx => ?_)
  have J1 := J.toSE hx
  have hxn : SE x.1 sp n := hx.mono J.hn.2
  have hpg := J.hpg
  exact met_up (m_X1_unled l E hj x.1 se al x.2 n pg J1.hn J1.hgr) (rfl) (fun _ h => CA.of h hx) (fun _ q => q.elim)
set_option maxHeartbeats 4000000 in
theorem q_steps (l : Launch) (E : EN) {ad : Int → Nat} (hj : INJ ad) {sp : Int → SpT} {se : Int → Int} {al : Int → Nat} {n pg : Int} (J : JV sp se al n pg) (u o : Int) (hu : 0 ≤ u ∧ u < n) (ho : 0 ≤ o ∧ o < n) : Met l yX1_steps wsX1_steps ({ frames := 2, cells := 0, slots := 0, locals := 43 }) (CI E [.ref (ad 0), .int (iI u), .int (iI o)] (CA E ad sp se al n pg)) (QW (some (.int (iI (fsS se al n o.toNat 24 (2 ^ u.toNat) 0)))) (CA E ad sp se al n pg) (AX ad)) 0 0 (AX ad) := by
  refine met_exi (P := fun x : (Int → SpT) × (Int → Int) => SE x.1 sp 24) (W := fun x => CW E ad x.1 se al x.2 n pg) (fun x hx => ?_)
  have J1 := J.toSE hx
  have hxn : SE x.1 sp n := hx.mono J.hn.2
  have hpg := J.hpg
  exact met_up (m_X1_steps l E hj x.1 se al x.2 n pg u o hu J1.hn ho J1.hgr) (rfl) (fun _ h => CA.of h hx) (fun _ q => q.elim)
set_option maxHeartbeats 4000000 in
theorem q_reachOf (l : Launch) (E : EN) {ad : Int → Nat} (hj : INJ ad) {sp : Int → SpT} {se : Int → Int} {al : Int → Nat} {n pg : Int} (J : JV sp se al n pg) (u : Int) (hu : 0 ≤ u ∧ u < n) : Met l yX1_reachOf wsX1_reachOf ({ frames := 4, cells := 0, slots := 0, locals := 88 }) (CI E [.ref (ad 0), .int (iI u)] (CA E ad sp se al n pg)) (QW (some (.int (iI (RCH se al n u)))) (CA E ad sp se al n pg) (AX ad)) 0 0 (AX ad) := by
  refine met_exi (P := fun x : (Int → SpT) × (Int → Int) => SE x.1 sp 24) (W := fun x => CW E ad x.1 se al x.2 n pg) (fun x hx => ?_)
  have J1 := J.toSE hx
  have hxn : SE x.1 sp n := hx.mono J.hn.2
  have hpg := J.hpg
  exact met_up (m_X1_reachOf l E hj x.1 se al x.2 n pg u hu J1.hn J1.hgr) (rfl) (fun _ h => CA.of h hx) (fun _ q => q.elim)
set_option maxHeartbeats 4000000 in
theorem q_isInRing (l : Launch) (E : EN) {ad : Int → Nat} (hj : INJ ad) {sp : Int → SpT} {se : Int → Int} {al : Int → Nat} {n pg : Int} (J : JV sp se al n pg) (u : Int) (hu : 0 ≤ u ∧ u < n) : Met l yX1_isInRing wsX1_isInRing ({ frames := 4, cells := 0, slots := 0, locals := 89 }) (CI E [.ref (ad 0), .int (iI u)] (CA E ad sp se al n pg)) (QW (some (.int (iI (pI (RNG se al n u))))) (CA E ad sp se al n pg) (AX ad)) 0 0 (AX ad) := by
  refine met_exi (P := fun x : (Int → SpT) × (Int → Int) => SE x.1 sp 24) (W := fun x => CW E ad x.1 se al x.2 n pg) (fun x hx => ?_)
  have J1 := J.toSE hx
  have hxn : SE x.1 sp n := hx.mono J.hn.2
  have hpg := J.hpg
  exact met_up (m_X1_isInRing l E hj x.1 se al x.2 n pg u hu J1.hn J1.hgr) (rfl) (fun _ h => CA.of h hx) (fun _ q => q.elim)
set_option maxHeartbeats 4000000 in
theorem q_nearest (l : Launch) (E : EN) {ad : Int → Nat} (hj : INJ ad) {sp : Int → SpT} {se : Int → Int} {al : Int → Nat} {n pg : Int} (J : JV sp se al n pg) (u : Int) (hu : 0 ≤ u ∧ u < n) : Met l yX1_nearest wsX1_nearest ({ frames := 3, cells := 0, slots := 0, locals := 68 }) (CI E [.ref (ad 0), .int (iI u)] (CA E ad sp se al n pg)) (QW (some (.int (iI (NEAR sp n u)))) (CA E ad sp se al n pg) (AX ad)) 0 0 (AX ad) := by
  refine met_exi (P := fun x : (Int → SpT) × (Int → Int) => SE x.1 sp 24) (W := fun x => CW E ad x.1 se al x.2 n pg) (fun x hx => ?_)
  have J1 := J.toSE hx
  have hxn : SE x.1 sp n := hx.mono J.hn.2
  have hpg := J.hpg
  exact met_up (m_X1_nearest l E hj x.1 se al x.2 n pg u hu J1.hn J1.hpg J1.hsp) (by rw [show NEAR x.1 n u = NEAR sp n u from hxn.near J.hsp (by omega) hu]) (fun _ h => CA.of h hx) (fun _ q => q.elim)
set_option maxHeartbeats 4000000 in
theorem q_commonPages (l : Launch) (E : EN) {ad : Int → Nat} (hj : INJ ad) {sp : Int → SpT} {se : Int → Int} {al : Int → Nat} {n pg : Int} (J : JV sp se al n pg) (u o : Int) (hu : 0 ≤ u ∧ u < n) (ho : 0 ≤ o ∧ o < n) : Met l yX1_commonPages wsX1_commonPages ({ frames := 2, cells := 0, slots := 0, locals := 43 }) (CI E [.ref (ad 0), .int (iI u), .int (iI o)] (CA E ad sp se al n pg)) (QW (some (.int (iI (smI (fun r => pI (cov (sp u) (r + 1) ∧ cov (sp o) (r + 1))) pg.toNat)))) (CA E ad sp se al n pg) (AX ad)) 0 0 (AX ad) := by
  refine met_exi (P := fun x : (Int → SpT) × (Int → Int) => SE x.1 sp 24) (W := fun x => CW E ad x.1 se al x.2 n pg) (fun x hx => ?_)
  have J1 := J.toSE hx
  have hxn : SE x.1 sp n := hx.mono J.hn.2
  have hpg := J.hpg
  exact met_up (m_X1_commonPages l E hj x.1 se al x.2 n pg u o hu J1.hn ho J1.hpg J1.hsp) (by rw [show smI (fun r => pI (cov (x.1 u) (r + 1) ∧ cov (x.1 o) (r + 1))) pg.toNat = _ from smI_c (fun r _ _ => pI_c (by rw [hxn.cov hu, hxn.cov ho]))]) (fun _ h => CA.of h hx) (fun _ q => q.elim)
set_option maxHeartbeats 4000000 in
theorem q_spansTogether (l : Launch) (E : EN) {ad : Int → Nat} (hj : INJ ad) {sp : Int → SpT} {se : Int → Int} {al : Int → Nat} {n pg : Int} (J : JV sp se al n pg) (u o : Int) (hu : 0 ≤ u ∧ u < n) (ho : 0 ≤ o ∧ o < n) : Met l yX1_spansTogether wsX1_spansTogether ({ frames := 3, cells := 0, slots := 0, locals := 64 }) (CI E [.ref (ad 0), .int (iI u), .int (iI o)] (CA E ad sp se al n pg)) (QW (some (.int (iI ((spS (fun q => cov (sp u) q ∨ cov (sp o) q) 0 pg.toNat).1)))) (CA E ad sp se al n pg) (AX ad)) 0 0 (AX ad) := by
  refine met_exi (P := fun x : (Int → SpT) × (Int → Int) => SE x.1 sp 24) (W := fun x => CW E ad x.1 se al x.2 n pg) (fun x hx => ?_)
  have J1 := J.toSE hx
  have hxn : SE x.1 sp n := hx.mono J.hn.2
  have hpg := J.hpg
  exact met_up (m_X1_spansTogether l E hj x.1 se al x.2 n pg u o hu J1.hn ho J1.hpg J1.hsp) (by rw [spS_c (Q := fun q => cov (sp u) q ∨ cov (sp o) q) (fun q _ _ => by show cov (x.1 u) q ∨ cov (x.1 o) q ↔ _; rw [hxn.cov hu, hxn.cov ho])]) (fun _ h => CA.oq h hx) (fun _ q => q)
set_option maxHeartbeats 4000000 in
theorem q_spansWithGap (l : Launch) (E : EN) {ad : Int → Nat} (hj : INJ ad) {sp : Int → SpT} {se : Int → Int} {al : Int → Nat} {n pg : Int} (J : JV sp se al n pg) (u gap : Int) (hu : 0 ≤ u ∧ u < n) (hgap : 0 ≤ gap ∧ gap ≤ 100) : Met l yX1_spansWithGap wsX1_spansWithGap ({ frames := 3, cells := 0, slots := 0, locals := 61 }) (CI E [.ref (ad 0), .int (iI u), .int (iI gap)] (CA E ad sp se al n pg)) (QW (some (.int (iI ((spS (cov (sp u)) gap pg.toNat).1)))) (CA E ad sp se al n pg) (AX ad)) 0 0 (AX ad) := by
  refine met_exi (P := fun x : (Int → SpT) × (Int → Int) => SE x.1 sp 24) (W := fun x => CW E ad x.1 se al x.2 n pg) (fun x hx => ?_)
  have J1 := J.toSE hx
  have hxn : SE x.1 sp n := hx.mono J.hn.2
  have hpg := J.hpg
  exact met_up (m_X1_spansWithGap l E hj x.1 se al x.2 n pg u gap hu J1.hn J1.hpg J1.hsp hgap) (by rw [spS_c (Q := cov (sp u)) (fun q _ _ => hxn.cov hu q)]) (fun _ h => CA.oq h hx) (fun _ q => q)
set_option maxHeartbeats 4000000 in
theorem q_digest (l : Launch) (E : EN) {ad : Int → Nat} (hj : INJ ad) {sp : Int → SpT} {se : Int → Int} {al : Int → Nat} {n pg : Int} (J : JV sp se al n pg)   : Met l yX1_digest wsX1_digest ({ frames := 5, cells := 0, slots := 0, locals := 116 }) (CI E [.ref (ad 0)] (CA E ad sp se al n pg)) (QW (some (.long (DIG sp se al n pg))) (CA E ad sp se al n pg) (AX ad)) 0 0 (AX ad) := by
  refine met_exi (P := fun x : (Int → SpT) × (Int → Int) => SE x.1 sp 24) (W := fun x => CW E ad x.1 se al x.2 n pg) (fun x hx => ?_)
  have J1 := J.toSE hx
  have hxn : SE x.1 sp n := hx.mono J.hn.2
  have hpg := J.hpg
  exact met_up (m_X1_digest l E hj x.1 se al x.2 n pg J1.hn J1.hpg J1.hsp J1.hgr) (by rw [show dgA x.1 se al n (dgL 2113 (TLS x.1 se al n pg)) n.toNat = DIG sp se al n pg from hxn.dig J.hsp (by omega) J.hgr]) (fun _ h => CA.ot h hx) (fun _ q => q)
set_option maxHeartbeats 4000000 in
theorem q_addHeading (l : Launch) (E : EN) {ad : Int → Nat} (hj : INJ ad) {sp : Int → SpT} {se : Int → Int} {al : Int → Nat} {n pg : Int} (J : JV sp se al n pg)  (h24 : n < 24) : Met l yX1_addHeading wsX1_addHeading ({ frames := 0, cells := 0, slots := 0, locals := 0 }) (CI E [.ref (ad 0)] (CA E ad sp se al n pg)) (QW (some (.int (iI (n)))) (CA E ad sp (upI se n (-1)) al (n + 1) pg) (AX ad)) 0 0 (AX ad) := by
  refine met_exi (P := fun x : (Int → SpT) × (Int → Int) => SE x.1 sp 24) (W := fun x => CW E ad x.1 se al x.2 n pg) (fun x hx => ?_)
  have J1 := J.toSE hx
  have hxn : SE x.1 sp n := hx.mono J.hn.2
  have hpg := J.hpg
  exact met_up (m_X1_addHeading l E hj x.1 se al x.2 n pg ⟨J1.hn.1, h24⟩) (rfl) (fun _ h => CA.of h hx) (fun _ q => q)
set_option maxHeartbeats 4000000 in
theorem q_setSee (l : Launch) (E : EN) {ad : Int → Nat} (hj : INJ ad) {sp : Int → SpT} {se : Int → Int} {al : Int → Nat} {n pg : Int} (J : JV sp se al n pg) (u o : Int) (hu : 0 ≤ u ∧ u < n) (ho : o = -1 ∨ (0 ≤ o ∧ o < n ∧ o ≠ u ∧ (sp u).1 = 0)) : Met l yX1_setSee wsX1_setSee ({ frames := 3, cells := 0, slots := 0, locals := 64 }) (CI E [.ref (ad 0), .int (iI u), .int (iI o)] (CA E ad sp se al n pg)) (QW (some (.int (iI (se u)))) (CA E ad sp (upI se u o) al n pg) (AX ad)) 0 0 (AX ad) := by
  refine met_exi (P := fun x : (Int → SpT) × (Int → Int) => SE x.1 sp 24) (W := fun x => CW E ad x.1 se al x.2 n pg) (fun x hx => ?_)
  have J1 := J.toSE hx
  have hxn : SE x.1 sp n := hx.mono J.hn.2
  have hpg := J.hpg
  exact met_up (m_X1_setSee l E hj x.1 se al x.2 n pg u o hu J1.hn J1.hsp (by rw [(hxn u hu.1 hu.2).1]; exact ho)) (rfl) (fun _ h => CA.of h hx) (fun _ q => q)
set_option maxHeartbeats 4000000 in
theorem q_turnSeeAlso (l : Launch) (E : EN) {ad : Int → Nat} (hj : INJ ad) {sp : Int → SpT} {se : Int → Int} {al : Int → Nat} {n pg : Int} (J : JV sp se al n pg) (u o : Int) (hu : 0 ≤ u ∧ u < n) (ho : 0 ≤ o ∧ o < n ∧ o ≠ u) (hc : pop (al u ^^^ 2 ^ o.toNat) 24 ≤ 4) : Met l yX1_turnSeeAlso wsX1_turnSeeAlso ({ frames := 2, cells := 0, slots := 0, locals := 42 }) (CI E [.ref (ad 0), .int (iI u), .int (iI o)] (CA E ad sp se al n pg)) (QW (some (.int (iI (((pop (al u ^^^ 2 ^ o.toNat) 24 : Nat) : Int))))) (CA E ad sp se (upI al u (al u ^^^ 2 ^ o.toNat)) n pg) (AX ad)) 0 0 (AX ad) := by
  refine met_exi (P := fun x : (Int → SpT) × (Int → Int) => SE x.1 sp 24) (W := fun x => CW E ad x.1 se al x.2 n pg) (fun x hx => ?_)
  have J1 := J.toSE hx
  have hxn : SE x.1 sp n := hx.mono J.hn.2
  have hpg := J.hpg
  exact met_up (m_X1_turnSeeAlso l E hj x.1 se al x.2 n pg u o hu J1.hn J1.hgr ho hc) (rfl) (fun _ h => CA.of h hx) (fun _ q => q)
set_option maxHeartbeats 4000000 in
theorem q_addPages (l : Launch) (E : EN) {ad : Int → Nat} (hj : INJ ad) {sp : Int → SpT} {se : Int → Int} {al : Int → Nat} {n pg : Int} (J : JV sp se al n pg) (u fr to : Int) (G : SpT) (hu : 0 ≤ u ∧ u < n) (hf : 1 ≤ fr ∧ fr ≤ to ∧ to ≤ pg) (hse : se u = -1) (hG : VL G pg ∧ ∀ q, cov G q ↔ cov (sp u) q ∨ (fr ≤ q ∧ q ≤ to)) (h8 : G.1 ≤ 8) : Met l yX1_addPages wsX1_addPages ({ frames := 4, cells := 0, slots := 0, locals := 82 }) (CI E [.ref (ad 0), .int (iI u), .int (iI fr), .int (iI to)] (CA E ad sp se al n pg)) (QW (some (.int (iI (G.1)))) (CA E ad (upI sp u G) se al n pg) (AX ad)) 0 0 (AX ad) := by
  refine met_exi (P := fun x : (Int → SpT) × (Int → Int) => SE x.1 sp 24) (W := fun x => CW E ad x.1 se al x.2 n pg) (fun x hx => ?_)
  have J1 := J.toSE hx
  have hxn : SE x.1 sp n := hx.mono J.hn.2
  have hpg := J.hpg
  have hcnt : (spS (fun q => cov (x.1 u) q ∨ (fr ≤ q ∧ q ≤ to)) 0 pg.toNat).1 = G.1 := by rw [vl_ns hG.1 (by omega)]; exact congrArg Prod.fst (spS_c (fun q _ _ => by rw [hG.2 q, hxn.cov hu]))
  exact met_up (m_X1_addPages l E hj x.1 se al x.2 n pg u fr to hu J1.hn J1.hpg J1.hsp hf hse (by rw [hcnt]; exact h8)) (by rw [hcnt]) (fun _ h => by obtain ⟨hs, t, hR, h⟩ := h; exact CA.of h (sp_put hx hu (by have := J.hn; omega) hG hR (fun q => by show cov (x.1 u) q ∨ (fr ≤ q ∧ q ≤ to) ↔ _; rw [hxn.cov hu]))) (fun _ q => q)
set_option maxHeartbeats 4000000 in
theorem q_takePages (l : Launch) (E : EN) {ad : Int → Nat} (hj : INJ ad) {sp : Int → SpT} {se : Int → Int} {al : Int → Nat} {n pg : Int} (J : JV sp se al n pg) (u fr to : Int) (G : SpT) (hu : 0 ≤ u ∧ u < n) (hf : 1 ≤ fr ∧ fr ≤ to ∧ to ≤ pg) (hG : VL G pg ∧ ∀ q, cov G q ↔ cov (sp u) q ∧ ¬ (fr ≤ q ∧ q ≤ to)) (h8 : G.1 ≤ 8) : Met l yX1_takePages wsX1_takePages ({ frames := 4, cells := 0, slots := 0, locals := 84 }) (CI E [.ref (ad 0), .int (iI u), .int (iI fr), .int (iI to)] (CA E ad sp se al n pg)) (QW (some (.int (iI (PGS (sp u) - PGS G)))) (CA E ad (upI sp u G) se al n pg) (AX ad)) 0 0 (AX ad) := by
  refine met_exi (P := fun x : (Int → SpT) × (Int → Int) => SE x.1 sp 24) (W := fun x => CW E ad x.1 se al x.2 n pg) (fun x hx => ?_)
  have J1 := J.toSE hx
  have hxn : SE x.1 sp n := hx.mono J.hn.2
  have hpg := J.hpg
  have hcnt : (spS (fun q => cov (x.1 u) q ∧ ¬ (fr ≤ q ∧ q ≤ to)) 0 pg.toNat).1 = G.1 := by rw [vl_ns hG.1 (by omega)]; exact congrArg Prod.fst (spS_c (fun q _ _ => by rw [hG.2 q, hxn.cov hu]))
  have hans : smI (fun k => pI (cov (x.1 u) (k + 1))) pg.toNat - smI (fun k => pI ((fun q => cov (x.1 u) q ∧ ¬ (fr ≤ q ∧ q ≤ to)) (k + 1))) pg.toNat = PGS (sp u) - PGS G := by
    rw [show PGS (sp u) = _ from pg_sum (J.hsp u hu.1 hu.2).1 (by omega), show PGS G = _ from pg_sum hG.1 (by omega)]
    congr 1
    · exact smI_c (fun k _ _ => pI_c (hxn.cov hu (k + 1)))
    · exact smI_c (fun k _ _ => pI_c (by show cov (x.1 u) (k + 1) ∧ ¬ (fr ≤ k + 1 ∧ k + 1 ≤ to) ↔ _; rw [hG.2, hxn.cov hu]))
  exact met_up (m_X1_takePages l E hj x.1 se al x.2 n pg u fr to hu J1.hn J1.hpg J1.hsp hf (by rw [hcnt]; exact h8)) (by rw [hans]) (fun _ h => by obtain ⟨hs, t, hR, h⟩ := h; exact CA.of h (sp_put hx hu (by have := J.hn; omega) hG hR (fun q => by show cov (x.1 u) q ∧ ¬ (fr ≤ q ∧ q ≤ to) ↔ _; rw [hxn.cov hu]))) (fun _ q => q)
set_option maxHeartbeats 4000000 in
theorem q_putIn (l : Launch) (E : EN) {ad : Int → Nat} (hj : INJ ad) {sp : Int → SpT} {se : Int → Int} {al : Int → Nat} {n pg : Int} (J : JV sp se al n pg) (q mn : Int) (hq : 1 ≤ q ∧ q ≤ pg + 1 ∧ 1 ≤ mn ∧ mn ≤ 100 ∧ pg + mn ≤ 300) : Met l yX1_putIn wsX1_putIn ({ frames := 2, cells := 0, slots := 0, locals := 43 }) (CI E [.ref (ad 0), .int (iI q), .int (iI mn)] (CA E ad sp se al n pg)) (QW (some (.int (iI (pg + mn)))) (CA E ad (fun i => mvd (sp i) q mn (sp i).1) se al n (pg + mn)) (AX ad)) 0 0 (AX ad) := by
  refine met_exi (P := fun x : (Int → SpT) × (Int → Int) => SE x.1 sp 24) (W := fun x => CW E ad x.1 se al x.2 n pg) (fun x hx => ?_)
  have J1 := J.toSE hx
  have hxn : SE x.1 sp n := hx.mono J.hn.2
  have hpg := J.hpg
  exact met_up (m_X1_putIn l E hj x.1 se al x.2 n pg q mn J1.hn J1.hpg J1.hsp hq) (rfl) (fun _ h => by obtain ⟨hs, t, hR, h⟩ := h; exact CA.of h (sp_in J hx hR)) (fun _ q => q)
set_option maxHeartbeats 4000000 in
theorem q_takeOut (l : Launch) (E : EN) {ad : Int → Nat} (hj : INJ ad) {sp : Int → SpT} {se : Int → Int} {al : Int → Nat} {n pg : Int} (J : JV sp se al n pg) (q : Int) (h2 : Int → SpT) (hq : 1 ≤ q ∧ q ≤ pg ∧ 1 < pg) (hG : ∀ i : Int, 0 ≤ i → i < n → VL (h2 i) (pg - 1) ∧ ∀ r, cov (h2 i) r ↔ cov (sp i) (if r < q then r else r + 1)) (hz : ∀ i : Int, n ≤ i → i < 24 → (h2 i).1 = 0) : Met l yX1_takeOut wsX1_takeOut ({ frames := 4, cells := 0, slots := 0, locals := 85 }) (CI E [.ref (ad 0), .int (iI q)] (CA E ad sp se al n pg)) (QW (some (.int (iI (CHN sp n q)))) (CA E ad h2 se al n (pg - 1)) (AX ad)) 0 0 (AX ad) := by
  refine met_exi (P := fun x : (Int → SpT) × (Int → Int) => SE x.1 sp 24) (W := fun x => CW E ad x.1 se al x.2 n pg) (fun x hx => ?_)
  have J1 := J.toSE hx
  have hxn : SE x.1 sp n := hx.mono J.hn.2
  have hpg := J.hpg
  exact met_up (m_X1_takeOut l E hj x.1 se al x.2 n pg q J1.hn J1.hpg J1.hsp hq) (by rw [show CHN x.1 n q = CHN sp n q from hxn.chn q]) (fun _ h => by obtain ⟨hs, t, hR, h⟩ := h; exact CA.of h (sp_out J hx hG hz hR)) (fun _ q => q)
set_option maxHeartbeats 4000000 in
theorem x_addPagesZ (l : Launch) (hlt : l.stackTraces = false) (E : EN) (bs : Nat) {ad : Int → Nat} (hj : INJ ad) {sp : Int → SpT} {se : Int → Int} {al : Int → Nat} {n pg : Int} (J : JV sp se al n pg) (u fr to : Int) (hu : 0 ≤ u ∧ u < n) (hf : 1 ≤ fr ∧ fr ≤ to ∧ to ≤ pg) (hse : se u ≠ -1) : vx_Met l yX1_addPages wsX1_addPages ({ frames := 6, cells := 1, slots := 6, locals := 82 }) (CX E bs [.ref (ad 0), .int (iI u), .int (iI fr), .int (iI to)] (CA E ad sp se al n pg)) QF (XW "java/lang/IllegalStateException" (CA E ad sp se al n pg) (AX ad)) 1 6 (AX ad) := by
  refine vx_exi (P := fun x : (Int → SpT) × (Int → Int) => SE x.1 sp 24) (W := fun x => CW E ad x.1 se al x.2 n pg) (fun x hx => ?_)
  have J1 := J.toSE hx
  have hxn : SE x.1 sp n := hx.mono J.hn.2
  have hpg := J.hpg
  exact vx_up (m_X1_addPagesZ l hlt E bs hj x.1 se al x.2 n pg u fr to hu J1.hn J1.hpg hf J1.hgr hse) (fun _ h => CA.of h hx) (fun _ q => q.elim)
set_option maxHeartbeats 4000000 in
theorem x_addPagesR (l : Launch) (hlt : l.stackTraces = false) (E : EN) (bs : Nat) {ad : Int → Nat} (hj : INJ ad) {sp : Int → SpT} {se : Int → Int} {al : Int → Nat} {n pg : Int} (J : JV sp se al n pg) (u fr to : Int) (G : SpT) (hu : 0 ≤ u ∧ u < n) (hf : 1 ≤ fr ∧ fr ≤ to ∧ to ≤ pg) (hse : se u = -1) (hG : VL G pg ∧ ∀ q, cov G q ↔ cov (sp u) q ∨ (fr ≤ q ∧ q ≤ to)) (h8 : 8 < G.1) (hAb : ∀ q, AX ad q → bs ≤ q) : vx_Met l yX1_addPages wsX1_addPages ({ frames := 7, cells := 1, slots := 6, locals := 102 }) (CX E bs [.ref (ad 0), .int (iI u), .int (iI fr), .int (iI to)] (CA E ad sp se al n pg)) QF (XW "java/lang/IllegalStateException" (CA E ad sp se al n pg) (AX ad)) 1 6 (AX ad) := by
  refine vx_exi (P := fun x : (Int → SpT) × (Int → Int) => SE x.1 sp 24) (W := fun x => CW E ad x.1 se al x.2 n pg) (fun x hx => ?_)
  have J1 := J.toSE hx
  have hxn : SE x.1 sp n := hx.mono J.hn.2
  have hpg := J.hpg
  have hcnt : (spS (fun q => cov (x.1 u) q ∨ (fr ≤ q ∧ q ≤ to)) 0 pg.toNat).1 = G.1 := by rw [vl_ns hG.1 (by omega)]; exact congrArg Prod.fst (spS_c (fun q _ _ => by rw [hG.2 q, hxn.cov hu]))
  exact vx_up (m_X1_addPagesR l hlt E bs hj x.1 se al x.2 n pg u fr to hu J1.hn J1.hpg J1.hsp hf hse (by rw [hcnt]; exact h8) hAb) (fun _ h => CA.oq h hx) (fun _ q => q)
set_option maxHeartbeats 4000000 in
theorem x_takePagesR (l : Launch) (hlt : l.stackTraces = false) (E : EN) (bs : Nat) {ad : Int → Nat} (hj : INJ ad) {sp : Int → SpT} {se : Int → Int} {al : Int → Nat} {n pg : Int} (J : JV sp se al n pg) (u fr to : Int) (G : SpT) (hu : 0 ≤ u ∧ u < n) (hf : 1 ≤ fr ∧ fr ≤ to ∧ to ≤ pg) (hG : VL G pg ∧ ∀ q, cov G q ↔ cov (sp u) q ∧ ¬ (fr ≤ q ∧ q ≤ to)) (h8 : 8 < G.1) (hAb : ∀ q, AX ad q → bs ≤ q) : vx_Met l yX1_takePages wsX1_takePages ({ frames := 7, cells := 1, slots := 6, locals := 102 }) (CX E bs [.ref (ad 0), .int (iI u), .int (iI fr), .int (iI to)] (CA E ad sp se al n pg)) QF (XW "java/lang/IllegalStateException" (CA E ad sp se al n pg) (AX ad)) 1 6 (AX ad) := by
  refine vx_exi (P := fun x : (Int → SpT) × (Int → Int) => SE x.1 sp 24) (W := fun x => CW E ad x.1 se al x.2 n pg) (fun x hx => ?_)
  have J1 := J.toSE hx
  have hxn : SE x.1 sp n := hx.mono J.hn.2
  have hpg := J.hpg
  have hcnt : (spS (fun q => cov (x.1 u) q ∧ ¬ (fr ≤ q ∧ q ≤ to)) 0 pg.toNat).1 = G.1 := by rw [vl_ns hG.1 (by omega)]; exact congrArg Prod.fst (spS_c (fun q _ _ => by rw [hG.2 q, hxn.cov hu]))
  exact vx_up (m_X1_takePagesR l hlt E bs hj x.1 se al x.2 n pg u fr to hu J1.hn J1.hpg J1.hsp hf (by rw [hcnt]; exact h8) hAb) (fun _ h => CA.oq h hx) (fun _ q => q)
set_option maxHeartbeats 4000000 in
theorem x_setSeeR (l : Launch) (hlt : l.stackTraces = false) (E : EN) (bs : Nat) {ad : Int → Nat} (hj : INJ ad) {sp : Int → SpT} {se : Int → Int} {al : Int → Nat} {n pg : Int} (J : JV sp se al n pg) (u o : Int) (hu : 0 ≤ u ∧ u < n) (ho : 0 ≤ o ∧ o < n ∧ o ≠ u) (hc : (sp u).1 ≠ 0) : vx_Met l yX1_setSee wsX1_setSee ({ frames := 7, cells := 1, slots := 6, locals := 103 }) (CX E bs [.ref (ad 0), .int (iI u), .int (iI o)] (CA E ad sp se al n pg)) QF (XW "java/lang/IllegalStateException" (CA E ad sp se al n pg) (AX ad)) 1 6 (AX ad) := by
  refine vx_exi (P := fun x : (Int → SpT) × (Int → Int) => SE x.1 sp 24) (W := fun x => CW E ad x.1 se al x.2 n pg) (fun x hx => ?_)
  have J1 := J.toSE hx
  have hxn : SE x.1 sp n := hx.mono J.hn.2
  have hpg := J.hpg
  exact vx_up (m_X1_setSeeR l hlt E bs hj x.1 se al x.2 n pg u o hu J1.hn J1.hsp ho (by rw [(hxn u hu.1 hu.2).1]; exact hc)) (fun _ h => CA.of h hx) (fun _ q => q.elim)
set_option maxHeartbeats 4000000 in
theorem x_turnSeeAlsoR (l : Launch) (hlt : l.stackTraces = false) (E : EN) (bs : Nat) {ad : Int → Nat} (hj : INJ ad) {sp : Int → SpT} {se : Int → Int} {al : Int → Nat} {n pg : Int} (J : JV sp se al n pg) (u o : Int) (hu : 0 ≤ u ∧ u < n) (ho : 0 ≤ o ∧ o < n ∧ o ≠ u) (hc : 4 < pop (al u ^^^ 2 ^ o.toNat) 24) : vx_Met l yX1_turnSeeAlso wsX1_turnSeeAlso ({ frames := 6, cells := 1, slots := 6, locals := 82 }) (CX E bs [.ref (ad 0), .int (iI u), .int (iI o)] (CA E ad sp se al n pg)) QF (XW "java/lang/IllegalStateException" (CA E ad sp se al n pg) (AX ad)) 1 6 (AX ad) := by
  refine vx_exi (P := fun x : (Int → SpT) × (Int → Int) => SE x.1 sp 24) (W := fun x => CW E ad x.1 se al x.2 n pg) (fun x hx => ?_)
  have J1 := J.toSE hx
  have hxn : SE x.1 sp n := hx.mono J.hn.2
  have hpg := J.hpg
  exact vx_up (m_X1_turnSeeAlsoR l hlt E bs hj x.1 se al x.2 n pg u o hu J1.hn J1.hgr ho hc) (fun _ h => CA.of h hx) (fun _ q => q.elim)
set_option maxHeartbeats 4000000 in
theorem x_putInY (l : Launch) (hlt : l.stackTraces = false) (E : EN) (bs : Nat) {ad : Int → Nat} (hj : INJ ad) {sp : Int → SpT} {se : Int → Int} {al : Int → Nat} {n pg : Int} (J : JV sp se al n pg) (q mn : Int) (hq : 1 ≤ q ∧ q ≤ pg + 1 ∧ 1 ≤ mn ∧ mn ≤ 100 ∧ 300 < pg + mn) : vx_Met l yX1_putIn wsX1_putIn ({ frames := 6, cells := 1, slots := 6, locals := 82 }) (CX E bs [.ref (ad 0), .int (iI q), .int (iI mn)] (CA E ad sp se al n pg)) QF (XW "java/lang/IllegalStateException" (CA E ad sp se al n pg) (AX ad)) 1 6 (AX ad) := by
  refine vx_exi (P := fun x : (Int → SpT) × (Int → Int) => SE x.1 sp 24) (W := fun x => CW E ad x.1 se al x.2 n pg) (fun x hx => ?_)
  have J1 := J.toSE hx
  have hxn : SE x.1 sp n := hx.mono J.hn.2
  have hpg := J.hpg
  exact vx_up (m_X1_putInY l hlt E bs hj x.1 se al x.2 n pg q mn J1.hpg hq) (fun _ h => CA.of h hx) (fun _ q => q.elim)
set_option maxHeartbeats 4000000 in
theorem x_takeOutY (l : Launch) (hlt : l.stackTraces = false) (E : EN) (bs : Nat) {ad : Int → Nat} (hj : INJ ad) {sp : Int → SpT} {se : Int → Int} {al : Int → Nat} {n pg : Int} (J : JV sp se al n pg) (q : Int) (hq : q = 1 ∧ pg = 1) : vx_Met l yX1_takeOut wsX1_takeOut ({ frames := 6, cells := 1, slots := 6, locals := 82 }) (CX E bs [.ref (ad 0), .int (iI q)] (CA E ad sp se al n pg)) QF (XW "java/lang/IllegalStateException" (CA E ad sp se al n pg) (AX ad)) 1 6 (AX ad) := by
  refine vx_exi (P := fun x : (Int → SpT) × (Int → Int) => SE x.1 sp 24) (W := fun x => CW E ad x.1 se al x.2 n pg) (fun x hx => ?_)
  have J1 := J.toSE hx
  have hxn : SE x.1 sp n := hx.mono J.hn.2
  have hpg := J.hpg
  exact vx_up (m_X1_takeOutY l hlt E bs hj x.1 se al x.2 n pg q J1.hpg hq) (fun _ h => CA.of h hx) (fun _ q => q.elim)
