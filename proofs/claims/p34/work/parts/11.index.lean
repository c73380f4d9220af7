/-! THE CLASS: the tally, what is asked of all headings, what the calls need -/
noncomputable abbrev BARE (sp : Int → SpT) (n pg : Int) : Int := smI (fun k => pI (CHN sp n (k + 1) = 0)) pg.toNat
noncomputable abbrev FULL (sp : Int → SpT) (n pg : Int) : Int := flS (CHN sp n) (pg - 1).toNat
noncomputable abbrev VAIN (sp : Int → SpT) (se : Int → Int) (n : Int) : Int := smI (fun h => pI (se h ≠ -1 ∧ (eS se n.toNat h = -1 ∨ (sp (eS se n.toNat h)).1 = 0))) n.toNat
abbrev UNL (se : Int → Int) (al : Int → Nat) (n : Int) : Int := n - ((pop (stS se al (2 ^ n.toNat - 1) n.toNat) 24 : Nat) : Int)
noncomputable abbrev PGS (g : SpT) : Int := smI (fun k => g.2.2 k - g.2.1 k + 1) g.1.toNat
noncomputable abbrev NEAR (sp : Int → SpT) (n u : Int) : Int := (nrS (fun o => if o = u then 0 else pic (sp u) (sp o) ((sp u).1 + (sp o).1).toNat 0 0 0) n.toNat).1
abbrev RCH (se : Int → Int) (al : Int → Nat) (n u : Int) : Int := ((pop (itS se al n 24 (2 ^ u.toNat)) 24 : Nat) : Int)
abbrev RNG (se : Int → Int) (al : Int → Nat) (n u : Int) : Prop := (itS se al n 24 (stS se al (2 ^ u.toNat) n.toNat)).testBit u.toNat = true
def dgW (d x : Int64) : Int64 := d * 31 + x
def dgL (d : Int64) (l : List Int) : Int64 := l.foldl (fun d x => dgW d (iI x).toInt64) d
def dgS (g : SpT) (d : Int64) : Nat → Int64
  | 0 => d
  | k + 1 => dgW (dgW (dgS g d k) (iI (g.2.1 k)).toInt64) (iI (g.2.2 k)).toInt64
theorem dgS_s (g : SpT) (d : Int64) {z : Int} (h : 0 ≤ z) : dgS g d (z + 1).toNat = dgW (dgW (dgS g d z.toNat) (iI (g.2.1 z)).toInt64) (iI (g.2.2 z)).toInt64 := by
  rw [show (z + 1).toNat = z.toNat + 1 by omega]
  show dgW (dgW (dgS g d z.toNat) (iI (g.2.1 ((z.toNat : Nat) : Int))).toInt64) (iI (g.2.2 ((z.toNat : Nat) : Int))).toInt64 = _
  rw [show ((z.toNat : Nat) : Int) = z by omega]
noncomputable abbrev HL (sp : Int → SpT) (se : Int → Int) (al : Int → Nat) (n u : Int) : List Int := [(sp u).1, PGS (sp u), se u, ((pop (al u) 24 : Nat) : Int), eS se n.toNat u, RCH se al n u, pI (RNG se al n u), NEAR sp n u]
noncomputable def dgA (sp : Int → SpT) (se : Int → Int) (al : Int → Nat) (n : Int) (d : Int64) : Nat → Int64
  | 0 => d
  | k + 1 => dgS (sp k) (dgL (dgA sp se al n d k) (HL sp se al n k)) (sp k).1.toNat
theorem dgA_s (sp : Int → SpT) (se : Int → Int) (al : Int → Nat) (n : Int) (d : Int64) {z : Int} (h : 0 ≤ z) : dgA sp se al n d (z + 1).toNat = dgS (sp z) (dgL (dgA sp se al n d z.toNat) (HL sp se al n z)) (sp z).1.toNat := by
  rw [show (z + 1).toNat = z.toNat + 1 by omega]
  show dgS (sp ((z.toNat : Nat) : Int)) (dgL (dgA sp se al n d z.toNat) (HL sp se al n ((z.toNat : Nat) : Int))) (sp ((z.toNat : Nat) : Int)).1.toNat = _
  rw [show ((z.toNat : Nat) : Int) = z by omega]
noncomputable abbrev TLS (sp : Int → SpT) (se : Int → Int) (al : Int → Nat) (n pg : Int) : List Int := [pg, n, BARE sp n pg, FULL sp n pg, VAIN sp se n, UNL se al n]
/-- the world, with spans of which R tells, whatever the tally and the spans that are made anew -/
def CQ (E : EN) (ad : Int → Nat) (se : Int → Int) (al : Int → Nat) (n pg : Int) (R : Int → SpT → Prop) (H : Heap) : Prop := ∃ (hs : Int → SpT) (ta : Int → Int), (∀ i : Int, 0 ≤ i → i < 24 → R i (hs i)) ∧ CW E ad hs se al ta n pg H
set_option maxHeartbeats 4000000 in
set_option maxRecDepth 100000 in
theorem m_X1_tallyEnds (l : Launch) (E : EN) {ad : Int → Nat} (hj : INJ ad) (sp : Int → SpT) (se : Int → Int) (al : Int → Nat) (ta : Int → Int) (n pg : Int) (i : Int) (hi : 0 ≤ i ∧ i < 27) (g : SpT) (hg : sp i = g) (hpg : 1 ≤ pg ∧ pg ≤ 300) (hv : VL g pg) : Met l yX1_tallyEnds wsX1_tallyEnds ({ frames := 1, cells := 0, slots := 0, locals := 22 }) (CI E [.ref (ad 0), .ref (ad (5 + 3 * i))] (CW E ad sp se al ta n pg)) (QW (none) (CW E ad sp se al (fun q => ta q + DDg g q g.1) n pg) (AX ad)) 0 0 (AX ad) := by
  refine g_met (cc := cX1_tallyEnds) (maxL := 3) (ret := none) (lv := [(0, .ref (ad 0)), (1, .ref (ad (5 + 3 * i)))]) (by decide) rfl (Nat.le_of_ble_eq_true rfl) rfl ?_
  intro xp xe xs xm xa xb xh xc S xK xr xlk xin
  have v00 := hv.1
  have L2 : ∀ (nf : Nat) (z : Int) (tt : Int → Int), (0 ≤ z ∧ z ≤ g.1) → (∀ q, tt q = ta q + DDg g q z) → (g.1 - z < (nf : Int)) → G xp l xe ({ frames := 1, cells := 0, slots := 0, locals := 22 }) xs xm xa xb xh xc 3 (AX ad) 0 0 (MQ xb (QW (none) (CW E ad sp se al (fun q => ta q + DDg g q g.1) n pg) (AX ad)) xa xs 0 0 (AX ad)) 2 [(0, .ref (ad 0)), (1, .ref (ad (5 + 3 * i))), (2, .int (iI z))] [] (CW E ad sp se al tt n pg) := by
    intro nf
    induction nf with
    | zero =>
      intro z tt hz ht hmf
      exfalso
      omega
    | succ nf ihL2 =>
      intro z tt hz ht hmf
      have v0 := hv.1
      have v1 := hv.2.1
      refine g_iload_n S dX1_tallyEnds_2 rfl 2 rfl ?_
      refine g_aload_n S dX1_tallyEnds_3 rfl 1 rfl ?_
      refine g_callV S xK (As := []) (st := [.int (iI z)]) (stk' := [.int (iI g.1), .int (iI z)]) (Wp' := CW E ad sp se al tt n pg) (r := (RX0, TX0, 3)) (m_X0_count l E hj sp se al tt n pg i (by omega) g (hg) ) (cwV 0 S.2.2.2.2 gX1_tallyEnds_X0_count rfl rfl rfl (by decide +kernel) ⟨Nat.le_of_ble_eq_true rfl, Nat.le_of_ble_eq_true rfl⟩) rfl rfl rfl rfl (Nat.le_of_ble_eq_true rfl) ⟨Nat.le_of_ble_eq_true rfl, Nat.le_of_ble_eq_true rfl⟩ (fun _ q => q.elim) (fun _ h => cw_o (i := i) h (by omega) (hg)) (fun _ h => h) (fun _ _ _ h _ _ => h) dX1_tallyEnds_4 ?_
      refine g_icmp_ge S (tgt := 38) dX1_tallyEnds_7 (by decide) (by omega) (fun c7 => ?_) (fun c7 => ?_)
      · skip
        exact g_vret S xr xlk dX1_tallyEnds_38 (fun _ h => by rw [show (fun q => ta q + DDg g q g.1) = tt from funext (fun q => by rw [ht q, show z = g.1 by omega])]; exact h)
      · skip
        have v10 := hv.2.2.1 z (by omega) (by omega)
        have eF : spF g z = g.2.1 z := if_pos (by omega)
        have eL : spL g z = g.2.2 z := if_pos (by omega)
        refine g_aload_n S dX1_tallyEnds_10 rfl 0 rfl ?_
        refine g_aload_n S dX1_tallyEnds_11 rfl 1 rfl ?_
        refine g_iload_n S dX1_tallyEnds_12 rfl 2 rfl ?_
        refine g_callV S xK (As := [.int (iI z)]) (st := [.ref (ad 0)]) (stk' := [.int (iI (spF g z)), .ref (ad 0)]) (Wp' := CW E ad sp se al tt n pg) (r := (RX0, TX0, 3)) (m_X0_first l E hj sp se al tt n pg i (by omega) g (hg) z (vl_wb (by omega) hv) (by omega)) (cwV 1 S.2.2.2.2 gX1_tallyEnds_X0_first rfl rfl rfl (by decide +kernel) ⟨Nat.le_of_ble_eq_true rfl, Nat.le_of_ble_eq_true rfl⟩) rfl rfl rfl rfl (Nat.le_of_ble_eq_true rfl) ⟨Nat.le_of_ble_eq_true rfl, Nat.le_of_ble_eq_true rfl⟩ (fun _ q => q.elim) (fun _ h => cw_o (i := i) h (by omega) (hg)) (fun _ h => h) (fun _ _ _ h _ _ => h) dX1_tallyEnds_13 ?_
        refine g_iconst S dX1_tallyEnds_16 ?_
        refine g_callV S xK (As := [.int (iI (spF g z)), .int (iI 1)]) (st := []) (stk' := []) (Wp' := CW E ad sp se al (upI tt (spF g z) (tt (spF g z) + 1)) n pg) (r := (RX1, TX1, 9)) (m_X1_tallyAt l E hj sp se al tt n pg (spF g z) 1 (by omega)) (cwV 2 S.2.2.2.2 gX1_tallyEnds_X1_tallyAt rfl rfl rfl (by decide +kernel) ⟨Nat.le_of_ble_eq_true rfl, Nat.le_of_ble_eq_true rfl⟩) rfl rfl rfl rfl (Nat.le_of_ble_eq_true rfl) ⟨Nat.le_of_ble_eq_true rfl, Nat.le_of_ble_eq_true rfl⟩ (fun _ q => q) (fun _ h => cw_x h) (fun _ h => h) (fun _ _ _ h _ _ => h) dX1_tallyEnds_17 ?_
        refine g_aload_n S dX1_tallyEnds_20 rfl 0 rfl ?_
        refine g_aload_n S dX1_tallyEnds_21 rfl 1 rfl ?_
        refine g_iload_n S dX1_tallyEnds_22 rfl 2 rfl ?_
        refine g_callV S xK (As := [.int (iI z)]) (st := [.ref (ad 0)]) (stk' := [.int (iI (spL g z)), .ref (ad 0)]) (Wp' := CW E ad sp se al (upI tt (spF g z) (tt (spF g z) + 1)) n pg) (r := (RX0, TX0, 3)) (m_X0_last l E hj sp se al (upI tt (spF g z) (tt (spF g z) + 1)) n pg i (by omega) g (hg) z (vl_wb (by omega) hv) (by omega)) (cwV 1 S.2.2.2.2 gX1_tallyEnds_X0_last rfl rfl rfl (by decide +kernel) ⟨Nat.le_of_ble_eq_true rfl, Nat.le_of_ble_eq_true rfl⟩) rfl rfl rfl rfl (Nat.le_of_ble_eq_true rfl) ⟨Nat.le_of_ble_eq_true rfl, Nat.le_of_ble_eq_true rfl⟩ (fun _ q => q.elim) (fun _ h => cw_o (i := i) h (by omega) (hg)) (fun _ h => h) (fun _ _ _ h _ _ => h) dX1_tallyEnds_23 ?_
        refine g_iconst S dX1_tallyEnds_26 ?_
        refine g_iadd S dX1_tallyEnds_27 ?_
        refine g_iconst S dX1_tallyEnds_28 ?_
        refine g_callV S xK (As := [.int (iI (spL g z + 1)), .int (iI (-1))]) (st := []) (stk' := []) (Wp' := CW E ad sp se al (upI (upI tt (spF g z) (tt (spF g z) + 1)) (spL g z + 1) ((upI tt (spF g z) (tt (spF g z) + 1)) (spL g z + 1) + (-1))) n pg) (r := (RX1, TX1, 9)) (m_X1_tallyAt l E hj sp se al (upI tt (spF g z) (tt (spF g z) + 1)) n pg (spL g z + 1) (-1) (by omega)) (cwV 2 S.2.2.2.2 gX1_tallyEnds_X1_tallyAt rfl rfl rfl (by decide +kernel) ⟨Nat.le_of_ble_eq_true rfl, Nat.le_of_ble_eq_true rfl⟩) rfl rfl rfl rfl (Nat.le_of_ble_eq_true rfl) ⟨Nat.le_of_ble_eq_true rfl, Nat.le_of_ble_eq_true rfl⟩ (fun _ q => q) (fun _ h => cw_x h) (fun _ h => h) (fun _ _ _ h _ _ => h) dX1_tallyEnds_29 ?_
        refine g_iinc S (lv' := [(2, .int (iI (z + 1))), (0, .ref (ad 0)), (1, .ref (ad (5 + 3 * i)))]) dX1_tallyEnds_32 2 rfl (Nat.le_of_ble_eq_true rfl) rfl ?_
        refine g_goto S (tgt := 2) dX1_tallyEnds_35 (by decide) ?_
        refine g_lv [1, 2, 0] rfl ?_
        exact ihL2 (z + 1) (upI (upI tt (spF g z) (tt (spF g z) + 1)) (spL g z + 1) ((upI tt (spF g z) (tt (spF g z) + 1)) (spL g z + 1) + (-1))) (by omega) (fun q => by rw [tl_step, show DDg g q (z + 1) = DDg g q z + (pI (g.2.1 z = q) - pI (g.2.2 z + 1 = q)) from smI_s _ hz.1, ht q, eF, eL]; omega) (by omega)
  refine g_iconst S dX1_tallyEnds_0 ?_
  refine g_istore_n S (lv' := [(2, .int (iI 0)), (0, .ref (ad 0)), (1, .ref (ad (5 + 3 * i)))]) dX1_tallyEnds_1 rfl (Nat.le_of_ble_eq_true rfl) rfl ?_
  refine g_lv [1, 2, 0] rfl ?_
  exact L2 ((g.1 - 0) + 1).toNat 0 ta (by omega) (fun q => (Int.add_zero _).symm) (by omega)
set_option maxHeartbeats 4000000 in
set_option maxRecDepth 100000 in
theorem m_X1_tallyHeadingsByPage (l : Launch) (E : EN) {ad : Int → Nat} (hj : INJ ad) (sp : Int → SpT) (se : Int → Int) (al : Int → Nat) (ta : Int → Int) (n pg : Int) (hn : 0 ≤ n ∧ n ≤ 24) (hpg : 1 ≤ pg ∧ pg ≤ 300) (hsp : SPV sp n pg) : Met l yX1_tallyHeadingsByPage wsX1_tallyHeadingsByPage ({ frames := 2, cells := 0, slots := 0, locals := 44 }) (CI E [.ref (ad 0)] (CW E ad sp se al ta n pg)) (QW (none) (fun H => ∃ tt : Int → Int, (∀ q : Int, 0 ≤ q → q ≤ 301 → tt q = CHN sp n q) ∧ CW E ad sp se al tt n pg H) (AX ad)) 0 0 (AX ad) := by
  refine g_met (cc := cX1_tallyHeadingsByPage) (maxL := 2) (ret := none) (lv := [(0, .ref (ad 0))]) (by decide) rfl (Nat.le_of_ble_eq_true rfl) rfl ?_
  intro xp xe xs xm xa xb xh xc S xK xr xlk xin
  have kf23 := S.2.2.2.2 (.fieldLink RX1 23 "BookIndex" "tally" "[I") (by decide +kernel)
  have kf36 := S.2.2.2.2 (.fieldLink RX1 36 "BookIndex" "headingCount" "I") (by decide +kernel)
  have hin1 : ∀ w ∈ wsX10, w ∈ wsX1_tallyHeadingsByPage := by decide +kernel
  have L51 : ∀ (nf : Nat) (q : Int) (tt : Int → Int), (1 ≤ q ∧ q ≤ 302) → (∀ k : Int, 0 ≤ k → k < q → tt k = CHN sp n k) → (∀ k : Int, q ≤ k → k ≤ 301 → tt k = DDn sp k n) → ((302 : Int) - q < (nf : Int)) → G xp l xe ({ frames := 2, cells := 0, slots := 0, locals := 44 }) xs xm xa xb xh xc 2 (AX ad) 0 0 (MQ xb (QW (none) (fun H => ∃ tt : Int → Int, (∀ q : Int, 0 ≤ q → q ≤ 301 → tt q = CHN sp n q) ∧ CW E ad sp se al tt n pg H) (AX ad)) xa xs 0 0 (AX ad)) 51 [(0, .ref (ad 0)), (1, .int (iI q))] [] (CW E ad sp se al tt n pg) := by
    intro nf
    induction nf with
    | zero =>
      intro q tt hq hlo hhi hmf
      exfalso
      omega
    | succ nf ihL51 =>
      intro q tt hq hlo hhi hmf
      refine g_iload_n S dX1_tallyHeadingsByPage_51 rfl 1 rfl ?_
      refine g_aload_n S dX1_tallyHeadingsByPage_52 rfl 0 rfl ?_
      refine g_get S xK (ref := "BookIndex") hin1 3 (by decide) (show vwCl[1]? = some (RX1, TX1, 9) from rfl) kf23 (fun _ h9 => h9) (fun _ h => cw_x h) rfl dX1_tallyHeadingsByPage_53 ?_
      refine g_alen S xK (n := 302) (x := 0) 0 rfl (fun _ h => cw_ta h) dX1_tallyHeadingsByPage_56 ?_
      refine g_icmp_ge S (tgt := 83) dX1_tallyHeadingsByPage_57 (by decide) (by omega) (fun c57 => ?_) (fun c57 => ?_)
      · skip
        exact g_vret S xr xlk dX1_tallyHeadingsByPage_83 (fun _ h => ⟨tt, fun q h0 h1 => hlo q h0 (by omega), h⟩)
      · skip
        refine g_aload_n S dX1_tallyHeadingsByPage_60 rfl 0 rfl ?_
        refine g_get S xK (ref := "BookIndex") hin1 3 (by decide) (show vwCl[1]? = some (RX1, TX1, 9) from rfl) kf23 (fun _ h9 => h9) (fun _ h => cw_x h) rfl dX1_tallyHeadingsByPage_61 ?_
        refine g_iload_n S dX1_tallyHeadingsByPage_64 rfl 1 rfl ?_
        refine g_dup2 S dX1_tallyHeadingsByPage_65 rfl rfl ?_
        refine g_iald S xK (n := 302) (fun _ h => cw_ta h) (by omega) (by decide) dX1_tallyHeadingsByPage_66 ?_
        refine g_aload_n S dX1_tallyHeadingsByPage_67 rfl 0 rfl ?_
        refine g_get S xK (ref := "BookIndex") hin1 3 (by decide) (show vwCl[1]? = some (RX1, TX1, 9) from rfl) kf23 (fun _ h9 => h9) (fun _ h => cw_x h) rfl dX1_tallyHeadingsByPage_68 ?_
        refine g_iload_n S dX1_tallyHeadingsByPage_71 rfl 1 rfl ?_
        refine g_iconst S dX1_tallyHeadingsByPage_72 ?_
        refine g_isub S dX1_tallyHeadingsByPage_73 ?_
        refine g_iald S xK (n := 302) (fun _ h => cw_ta h) (by omega) (by decide) dX1_tallyHeadingsByPage_74 ?_
        refine g_iadd S dX1_tallyHeadingsByPage_75 ?_
        refine g_iast S xK (Wp' := CW E ad sp se al (upI tt q (tt q + tt (q - 1))) n pg) (n := 302) (fun _ h => cw_ta h) (by omega) (by decide) (ax_in (by omega)) (fun _ _ h hv _ oq => cw_sTa hj h hv oq) dX1_tallyHeadingsByPage_76 ?_
        refine g_iinc S (lv' := [(1, .int (iI (q + 1))), (0, .ref (ad 0))]) dX1_tallyHeadingsByPage_77 1 rfl (Nat.le_of_ble_eq_true rfl) rfl ?_
        refine g_goto S (tgt := 51) dX1_tallyHeadingsByPage_80 (by decide) ?_
        refine g_lv [1, 0] rfl ?_
        exact ihL51 (q + 1) (upI tt q (tt q + tt (q - 1))) (by omega) (fun k h0 h1 => by rw [upI_if]; by_cases e : k = q; (· rw [if_pos e, e, hhi q (by omega) (by omega), hlo (q - 1) (by omega) (by omega)]; exact ta_1 hsp hn.1 hq.1); (· rw [if_neg e]; exact hlo k h0 (by omega))) (fun k h0 h1 => by rw [upI_if, if_neg (by omega)]; exact hhi k (by omega) h1) (by omega)
  have L26 : ∀ (nf : Nat) (o : Int) (tt : Int → Int), (0 ≤ o ∧ o ≤ n) → (∀ k : Int, 0 ≤ k → k ≤ 301 → tt k = DDn sp k o) → (n - o < (nf : Int)) → G xp l xe ({ frames := 2, cells := 0, slots := 0, locals := 44 }) xs xm xa xb xh xc 2 (AX ad) 0 0 (MQ xb (QW (none) (fun H => ∃ tt : Int → Int, (∀ q : Int, 0 ≤ q → q ≤ 301 → tt q = CHN sp n q) ∧ CW E ad sp se al tt n pg H) (AX ad)) xa xs 0 0 (AX ad)) 26 [(0, .ref (ad 0)), (1, .int (iI o))] [] (CW E ad sp se al tt n pg) := by
    intro nf
    induction nf with
    | zero =>
      intro o tt ho ht hmf
      exfalso
      omega
    | succ nf ihL26 =>
      intro o tt ho ht hmf
      refine g_iload_n S dX1_tallyHeadingsByPage_26 rfl 1 rfl ?_
      refine g_aload_n S dX1_tallyHeadingsByPage_27 rfl 0 rfl ?_
      refine g_get S xK (ref := "BookIndex") hin1 7 (by decide) (show vwCl[1]? = some (RX1, TX1, 9) from rfl) kf36 (fun _ h9 => h9) (fun _ h => cw_x h) rfl dX1_tallyHeadingsByPage_28 ?_
      refine g_icmp_ge S (tgt := 49) dX1_tallyHeadingsByPage_31 (by decide) (by omega) (fun c31 => ?_) (fun c31 => ?_)
      · skip
        refine g_iconst S dX1_tallyHeadingsByPage_49 ?_
        refine g_istore_n S (lv' := [(1, .int (iI 1)), (0, .ref (ad 0))]) dX1_tallyHeadingsByPage_50 rfl (Nat.le_of_ble_eq_true rfl) rfl ?_
        refine g_lv [1, 0] rfl ?_
        exact L51 (((302 : Int) - 1) + 1).toNat 1 tt (by omega) (fun k h0 h1 => by rw [show k = 0 by omega, ht 0 (by decide) (by decide), show o = n by omega]; exact ta_0 hsp hn.1) (fun k h0 h1 => by rw [ht k (by omega) h1, show o = n by omega]) (by omega)
      · skip
        refine g_aload_n S dX1_tallyHeadingsByPage_34 rfl 0 rfl ?_
        refine g_aload_n S dX1_tallyHeadingsByPage_35 rfl 0 rfl ?_
        refine g_iload_n S dX1_tallyHeadingsByPage_36 rfl 1 rfl ?_
        refine g_callV S xK (As := [.int (iI o)]) (st := [.ref (ad 0)]) (stk' := [.ref (ad (5 + 3 * o)), .ref (ad 0)]) (Wp' := CW E ad sp se al tt n pg) (r := (RX1, TX1, 9)) (m_X1_spansAt l E hj sp se al tt n pg o (by omega) hn) (cwV 1 S.2.2.2.2 gX1_tallyHeadingsByPage_X1_spansAt rfl rfl rfl (by decide +kernel) ⟨Nat.le_of_ble_eq_true rfl, Nat.le_of_ble_eq_true rfl⟩) rfl rfl rfl rfl (Nat.le_of_ble_eq_true rfl) ⟨Nat.le_of_ble_eq_true rfl, Nat.le_of_ble_eq_true rfl⟩ (fun _ q => q.elim) (fun _ h => cw_x h) (fun _ h => h) (fun _ _ _ h _ _ => h) dX1_tallyHeadingsByPage_37 ?_
        refine g_callV S xK (As := [.ref (ad (5 + 3 * o))]) (st := []) (stk' := []) (Wp' := CW E ad sp se al (fun q => tt q + DDg (sp o) q (sp o).1) n pg) (r := (RX1, TX1, 9)) (m_X1_tallyEnds l E hj sp se al tt n pg o (by omega) (sp o) (rfl) hpg (hsp o (by omega) (by omega)).1) (cwV 1 S.2.2.2.2 gX1_tallyHeadingsByPage_X1_tallyEnds rfl rfl rfl (by decide +kernel) ⟨Nat.le_of_ble_eq_true rfl, Nat.le_of_ble_eq_true rfl⟩) rfl rfl rfl rfl (Nat.le_of_ble_eq_true rfl) ⟨Nat.le_of_ble_eq_true rfl, Nat.le_of_ble_eq_true rfl⟩ (fun _ q => q) (fun _ h => cw_x h) (fun _ h => h) (fun _ _ _ h _ _ => h) dX1_tallyHeadingsByPage_40 ?_
        refine g_iinc S (lv' := [(1, .int (iI (o + 1))), (0, .ref (ad 0))]) dX1_tallyHeadingsByPage_43 1 rfl (Nat.le_of_ble_eq_true rfl) rfl ?_
        refine g_goto S (tgt := 26) dX1_tallyHeadingsByPage_46 (by decide) ?_
        refine g_lv [1, 0] rfl ?_
        exact ihL26 (o + 1) (fun q => tt q + DDg (sp o) q (sp o).1) (by omega) (fun k h0 h1 => by show tt k + _ = _; rw [show DDn sp k (o + 1) = DDn sp k o + DDg (sp o) k (sp o).1 from smI_s _ ho.1, ht k h0 h1]) (by omega)
  have L2 : ∀ (nf : Nat) (q : Int) (tt : Int → Int), (0 ≤ q ∧ q ≤ 302) → (∀ k : Int, 0 ≤ k → k < q → tt k = 0) → ((302 : Int) - q < (nf : Int)) → G xp l xe ({ frames := 2, cells := 0, slots := 0, locals := 44 }) xs xm xa xb xh xc 2 (AX ad) 0 0 (MQ xb (QW (none) (fun H => ∃ tt : Int → Int, (∀ q : Int, 0 ≤ q → q ≤ 301 → tt q = CHN sp n q) ∧ CW E ad sp se al tt n pg H) (AX ad)) xa xs 0 0 (AX ad)) 2 [(0, .ref (ad 0)), (1, .int (iI q))] [] (CW E ad sp se al tt n pg) := by
    intro nf
    induction nf with
    | zero =>
      intro q tt hq hz hmf
      exfalso
      omega
    | succ nf ihL2 =>
      intro q tt hq hz hmf
      refine g_iload_n S dX1_tallyHeadingsByPage_2 rfl 1 rfl ?_
      refine g_aload_n S dX1_tallyHeadingsByPage_3 rfl 0 rfl ?_
      refine g_get S xK (ref := "BookIndex") hin1 3 (by decide) (show vwCl[1]? = some (RX1, TX1, 9) from rfl) kf23 (fun _ h9 => h9) (fun _ h => cw_x h) rfl dX1_tallyHeadingsByPage_4 ?_
      refine g_alen S xK (n := 302) (x := 0) 0 rfl (fun _ h => cw_ta h) dX1_tallyHeadingsByPage_7 ?_
      refine g_icmp_ge S (tgt := 24) dX1_tallyHeadingsByPage_8 (by decide) (by omega) (fun c8 => ?_) (fun c8 => ?_)
      · skip
        refine g_iconst S dX1_tallyHeadingsByPage_24 ?_
        refine g_istore_n S (lv' := [(1, .int (iI 0)), (0, .ref (ad 0))]) dX1_tallyHeadingsByPage_25 rfl (Nat.le_of_ble_eq_true rfl) rfl ?_
        refine g_lv [1, 0] rfl ?_
        exact L26 ((n - 0) + 1).toNat 0 tt (by omega) (fun k h0 h1 => hz k h0 (by omega)) (by omega)
      · skip
        refine g_aload_n S dX1_tallyHeadingsByPage_11 rfl 0 rfl ?_
        refine g_get S xK (ref := "BookIndex") hin1 3 (by decide) (show vwCl[1]? = some (RX1, TX1, 9) from rfl) kf23 (fun _ h9 => h9) (fun _ h => cw_x h) rfl dX1_tallyHeadingsByPage_12 ?_
        refine g_iload_n S dX1_tallyHeadingsByPage_15 rfl 1 rfl ?_
        refine g_iconst S dX1_tallyHeadingsByPage_16 ?_
        refine g_iast S xK (Wp' := CW E ad sp se al (upI tt q 0) n pg) (n := 302) (fun _ h => cw_ta h) (by omega) (by decide) (ax_in (by omega)) (fun _ _ h hv _ oq => cw_sTa hj h hv oq) dX1_tallyHeadingsByPage_17 ?_
        refine g_iinc S (lv' := [(1, .int (iI (q + 1))), (0, .ref (ad 0))]) dX1_tallyHeadingsByPage_18 1 rfl (Nat.le_of_ble_eq_true rfl) rfl ?_
        refine g_goto S (tgt := 2) dX1_tallyHeadingsByPage_21 (by decide) ?_
        refine g_lv [1, 0] rfl ?_
        exact ihL2 (q + 1) (upI tt q 0) (by omega) (fun k h0 h1 => by rw [upI_if]; by_cases e : k = q; (· rw [if_pos e]); (· rw [if_neg e]; exact hz k h0 (by omega))) (by omega)
  refine g_iconst S dX1_tallyHeadingsByPage_0 ?_
  refine g_istore_n S (lv' := [(1, .int (iI 0)), (0, .ref (ad 0))]) dX1_tallyHeadingsByPage_1 rfl (Nat.le_of_ble_eq_true rfl) rfl ?_
  refine g_lv [1, 0] rfl ?_
  exact L2 (((302 : Int) - 0) + 1).toNat 0 ta (by omega) (fun k h0 h1 => by omega) (by omega)
set_option maxHeartbeats 4000000 in
set_option maxRecDepth 100000 in
theorem m_X1_barePages (l : Launch) (E : EN) {ad : Int → Nat} (hj : INJ ad) (sp : Int → SpT) (se : Int → Int) (al : Int → Nat) (ta : Int → Int) (n pg : Int) (hn : 0 ≤ n ∧ n ≤ 24) (hpg : 1 ≤ pg ∧ pg ≤ 300) (hsp : SPV sp n pg) : Met l yX1_barePages wsX1_barePages ({ frames := 3, cells := 0, slots := 0, locals := 65 }) (CI E [.ref (ad 0)] (CW E ad sp se al ta n pg)) (QW (some (.int (iI (BARE sp n pg)))) (CT E ad sp se al n pg) (AX ad)) 0 0 (AX ad) := by
  refine g_met (cc := cX1_barePages) (maxL := 3) (ret := (some .int)) (lv := [(0, .ref (ad 0))]) (by decide) rfl (Nat.le_of_ble_eq_true rfl) rfl ?_
  intro xp xe xs xm xa xb xh xc S xK xr xlk xin
  have kf40 := S.2.2.2.2 (.fieldLink RX1 40 "BookIndex" "pageCount" "I") (by decide +kernel)
  have kf23 := S.2.2.2.2 (.fieldLink RX1 23 "BookIndex" "tally" "[I") (by decide +kernel)
  have hin1 : ∀ w ∈ wsX10, w ∈ wsX1_barePages := by decide +kernel
  refine g_aload_n S dX1_barePages_0 rfl 0 rfl ?_
  refine g_callV S xK (As := []) (st := []) (stk' := []) (Wp' := fun H => ∃ tt : Int → Int, (∀ q : Int, 0 ≤ q → q ≤ 301 → tt q = CHN sp n q) ∧ CW E ad sp se al tt n pg H) (r := (RX1, TX1, 9)) (m_X1_tallyHeadingsByPage l E hj sp se al ta n pg hn hpg hsp) (cwV 0 S.2.2.2.2 gX1_barePages_X1_tallyHeadingsByPage rfl rfl rfl (by decide +kernel) ⟨Nat.le_of_ble_eq_true rfl, Nat.le_of_ble_eq_true rfl⟩) rfl rfl rfl rfl (Nat.le_of_ble_eq_true rfl) ⟨Nat.le_of_ble_eq_true rfl, Nat.le_of_ble_eq_true rfl⟩ (fun _ q => q) (fun _ h => cw_x h) (fun _ h => h) (fun _ _ _ h _ _ => h) dX1_barePages_1 ?_
  refine g_exP (fun tt htt => ?_)
  refine g_iconst S dX1_barePages_4 ?_
  refine g_istore_n S (lv' := [(1, .int (iI 0)), (0, .ref (ad 0))]) dX1_barePages_5 rfl (Nat.le_of_ble_eq_true rfl) rfl ?_
  refine g_iconst S dX1_barePages_6 ?_
  refine g_istore_n S (lv' := [(2, .int (iI 1)), (1, .int (iI 0)), (0, .ref (ad 0))]) dX1_barePages_7 rfl (Nat.le_of_ble_eq_true rfl) rfl ?_
  have L8 : ∀ (nf : Nat) (p : Int) (t : Int), (1 ≤ p ∧ p ≤ pg + 1) → (t = BARE sp n (p - 1)) → (pg + 1 - p < (nf : Int)) → G xp l xe ({ frames := 3, cells := 0, slots := 0, locals := 65 }) xs xm xa xb xh xc 3 (AX ad) 0 0 (MQ xb (QW (some (.int (iI (BARE sp n pg)))) (CT E ad sp se al n pg) (AX ad)) xa xs 0 0 (AX ad)) 8 [(0, .ref (ad 0)), (1, .int (iI t)), (2, .int (iI p))] [] (CW E ad sp se al tt n pg) := by
    intro nf
    induction nf with
    | zero =>
      intro p t hp ht hmf
      exfalso
      omega
    | succ nf ihL8 =>
      intro p t hp ht hmf
      refine g_iload_n S dX1_barePages_8 rfl 2 rfl ?_
      refine g_aload_n S dX1_barePages_9 rfl 0 rfl ?_
      refine g_get S xK (ref := "BookIndex") hin1 8 (by decide) (show vwCl[1]? = some (RX1, TX1, 9) from rfl) kf40 (fun _ h9 => h9) (fun _ h => cw_x h) rfl dX1_barePages_10 ?_
      refine g_icmp_gt S (tgt := 34) dX1_barePages_13 (by decide) (by omega) (fun c13 => ?_) (fun c13 => ?_)
      · skip
        refine g_iload_n S dX1_barePages_34 rfl 1 rfl ?_
        rw [show (BARE sp n pg) = t from by rw [show pg = p - 1 by omega, ht]]
        exact g_iret S xr xlk dX1_barePages_35 (fun _ h => ⟨_, h⟩)
      · skip
        refine g_aload_n S dX1_barePages_16 rfl 0 rfl ?_
        refine g_get S xK (ref := "BookIndex") hin1 3 (by decide) (show vwCl[1]? = some (RX1, TX1, 9) from rfl) kf23 (fun _ h9 => h9) (fun _ h => cw_x h) rfl dX1_barePages_17 ?_
        refine g_iload_n S dX1_barePages_20 rfl 2 rfl ?_
        refine g_iald S xK (n := 302) (fun _ h => cw_ta h) (by omega) (by decide) dX1_barePages_21 ?_
        have e22 := htt p (by omega) (by omega)
        have b22 := CHN_b sp p hn.1
        rw [← e22] at b22
        refine g_if_ne S (tgt := 28) dX1_barePages_22 (by decide) (by omega) (fun c22 => ?_) (fun c22 => ?_)
        · skip
          refine g_iinc S (lv' := [(2, .int (iI (p + 1))), (0, .ref (ad 0)), (1, .int (iI t))]) dX1_barePages_28 2 rfl (Nat.le_of_ble_eq_true rfl) rfl ?_
          refine g_goto S (tgt := 8) dX1_barePages_31 (by decide) ?_
          refine g_lv [1, 2, 0] rfl ?_
          exact ihL8 (p + 1) t (by omega) (by rw [show BARE sp n (p + 1 - 1) = _ from smI_p _ hp.1, show smI _ _ = t from ht.symm]; show _ = t + pI (CHN sp n (p - 1 + 1) = 0); rw [show p - 1 + 1 = p by omega, ← e22, pI_f c22]; omega) (by omega)
        · skip
          refine g_iinc S (lv' := [(1, .int (iI (t + 1))), (0, .ref (ad 0)), (2, .int (iI p))]) dX1_barePages_25 1 rfl (Nat.le_of_ble_eq_true rfl) rfl ?_
          refine g_iinc S (lv' := [(2, .int (iI (p + 1))), (1, .int (iI (t + 1))), (0, .ref (ad 0))]) dX1_barePages_28 2 rfl (Nat.le_of_ble_eq_true rfl) rfl ?_
          refine g_goto S (tgt := 8) dX1_barePages_31 (by decide) ?_
          refine g_lv [2, 1, 0] rfl ?_
          exact ihL8 (p + 1) (t + 1) (by omega) (by rw [show BARE sp n (p + 1 - 1) = _ from smI_p _ hp.1, show smI _ _ = t from ht.symm]; show _ = t + pI (CHN sp n (p - 1 + 1) = 0); rw [show p - 1 + 1 = p by omega, ← e22, pI_t c22]) (by omega)
  refine g_lv [2, 1, 0] rfl ?_
  exact L8 ((pg + 1 - 1) + 1).toNat 1 0 (by omega) (rfl) (by omega)
set_option maxHeartbeats 4000000 in
set_option maxRecDepth 100000 in
theorem m_X1_fullestPage (l : Launch) (E : EN) {ad : Int → Nat} (hj : INJ ad) (sp : Int → SpT) (se : Int → Int) (al : Int → Nat) (ta : Int → Int) (n pg : Int) (hn : 0 ≤ n ∧ n ≤ 24) (hpg : 1 ≤ pg ∧ pg ≤ 300) (hsp : SPV sp n pg) : Met l yX1_fullestPage wsX1_fullestPage ({ frames := 3, cells := 0, slots := 0, locals := 65 }) (CI E [.ref (ad 0)] (CW E ad sp se al ta n pg)) (QW (some (.int (iI (FULL sp n pg)))) (CT E ad sp se al n pg) (AX ad)) 0 0 (AX ad) := by
  refine g_met (cc := cX1_fullestPage) (maxL := 3) (ret := (some .int)) (lv := [(0, .ref (ad 0))]) (by decide) rfl (Nat.le_of_ble_eq_true rfl) rfl ?_
  intro xp xe xs xm xa xb xh xc S xK xr xlk xin
  have kf40 := S.2.2.2.2 (.fieldLink RX1 40 "BookIndex" "pageCount" "I") (by decide +kernel)
  have kf23 := S.2.2.2.2 (.fieldLink RX1 23 "BookIndex" "tally" "[I") (by decide +kernel)
  have hin1 : ∀ w ∈ wsX10, w ∈ wsX1_fullestPage := by decide +kernel
  refine g_aload_n S dX1_fullestPage_0 rfl 0 rfl ?_
  refine g_callV S xK (As := []) (st := []) (stk' := []) (Wp' := fun H => ∃ tt : Int → Int, (∀ q : Int, 0 ≤ q → q ≤ 301 → tt q = CHN sp n q) ∧ CW E ad sp se al tt n pg H) (r := (RX1, TX1, 9)) (m_X1_tallyHeadingsByPage l E hj sp se al ta n pg hn hpg hsp) (cwV 0 S.2.2.2.2 gX1_fullestPage_X1_tallyHeadingsByPage rfl rfl rfl (by decide +kernel) ⟨Nat.le_of_ble_eq_true rfl, Nat.le_of_ble_eq_true rfl⟩) rfl rfl rfl rfl (Nat.le_of_ble_eq_true rfl) ⟨Nat.le_of_ble_eq_true rfl, Nat.le_of_ble_eq_true rfl⟩ (fun _ q => q) (fun _ h => cw_x h) (fun _ h => h) (fun _ _ _ h _ _ => h) dX1_fullestPage_1 ?_
  refine g_exP (fun tt htt => ?_)
  refine g_iconst S dX1_fullestPage_4 ?_
  refine g_istore_n S (lv' := [(1, .int (iI 1)), (0, .ref (ad 0))]) dX1_fullestPage_5 rfl (Nat.le_of_ble_eq_true rfl) rfl ?_
  refine g_iconst S dX1_fullestPage_6 ?_
  refine g_istore_n S (lv' := [(2, .int (iI 2)), (1, .int (iI 1)), (0, .ref (ad 0))]) dX1_fullestPage_7 rfl (Nat.le_of_ble_eq_true rfl) rfl ?_
  have L8 : ∀ (nf : Nat) (p : Int) (b : Int), (2 ≤ p ∧ p ≤ pg + 1) → (flS (CHN sp n) (p - 2).toNat = b) → (1 ≤ b ∧ b ≤ pg) → (pg + 1 - p < (nf : Int)) → G xp l xe ({ frames := 3, cells := 0, slots := 0, locals := 65 }) xs xm xa xb xh xc 3 (AX ad) 0 0 (MQ xb (QW (some (.int (iI (FULL sp n pg)))) (CT E ad sp se al n pg) (AX ad)) xa xs 0 0 (AX ad)) 8 [(0, .ref (ad 0)), (1, .int (iI b)), (2, .int (iI p))] [] (CW E ad sp se al tt n pg) := by
    intro nf
    induction nf with
    | zero =>
      intro p b hp ht hb hmf
      exfalso
      omega
    | succ nf ihL8 =>
      intro p b hp ht hb hmf
      refine g_iload_n S dX1_fullestPage_8 rfl 2 rfl ?_
      refine g_aload_n S dX1_fullestPage_9 rfl 0 rfl ?_
      refine g_get S xK (ref := "BookIndex") hin1 8 (by decide) (show vwCl[1]? = some (RX1, TX1, 9) from rfl) kf40 (fun _ h9 => h9) (fun _ h => cw_x h) rfl dX1_fullestPage_10 ?_
      refine g_icmp_gt S (tgt := 39) dX1_fullestPage_13 (by decide) (by omega) (fun c13 => ?_) (fun c13 => ?_)
      · skip
        refine g_iload_n S dX1_fullestPage_39 rfl 1 rfl ?_
        rw [show (FULL sp n pg) = b from by show flS (CHN sp n) (pg - 1).toNat = _; rw [show (pg - 1).toNat = (p - 2).toNat by omega, ht]]
        exact g_iret S xr xlk dX1_fullestPage_40 (fun _ h => ⟨_, h⟩)
      · skip
        refine g_aload_n S dX1_fullestPage_16 rfl 0 rfl ?_
        refine g_get S xK (ref := "BookIndex") hin1 3 (by decide) (show vwCl[1]? = some (RX1, TX1, 9) from rfl) kf23 (fun _ h9 => h9) (fun _ h => cw_x h) rfl dX1_fullestPage_17 ?_
        refine g_iload_n S dX1_fullestPage_20 rfl 2 rfl ?_
        refine g_iald S xK (n := 302) (fun _ h => cw_ta h) (by omega) (by decide) dX1_fullestPage_21 ?_
        refine g_aload_n S dX1_fullestPage_22 rfl 0 rfl ?_
        refine g_get S xK (ref := "BookIndex") hin1 3 (by decide) (show vwCl[1]? = some (RX1, TX1, 9) from rfl) kf23 (fun _ h9 => h9) (fun _ h => cw_x h) rfl dX1_fullestPage_23 ?_
        refine g_iload_n S dX1_fullestPage_26 rfl 1 rfl ?_
        refine g_iald S xK (n := 302) (fun _ h => cw_ta h) (by omega) (by decide) dX1_fullestPage_27 ?_
        have e28 := htt p (by omega) (by omega)
        have b28 := CHN_b sp p hn.1
        have f28 := htt b (by omega) (by omega)
        have d28 := CHN_b sp b hn.1
        rw [← e28] at b28
        rw [← f28] at d28
        refine g_icmp_le S (tgt := 33) dX1_fullestPage_28 (by decide) (by omega) (fun c28 => ?_) (fun c28 => ?_)
        · skip
          refine g_iinc S (lv' := [(2, .int (iI (p + 1))), (0, .ref (ad 0)), (1, .int (iI b))]) dX1_fullestPage_33 2 rfl (Nat.le_of_ble_eq_true rfl) rfl ?_
          refine g_goto S (tgt := 8) dX1_fullestPage_36 (by decide) ?_
          refine g_lv [1, 2, 0] rfl ?_
          exact ihL8 (p + 1) b (by omega) (flS_n hp.1 ht (by rw [← e28, ← f28]; exact c28)) (by omega) (by omega)
        · skip
          refine g_iload_n S dX1_fullestPage_31 rfl 2 rfl ?_
          refine g_istore_n S (lv' := [(1, .int (iI p)), (0, .ref (ad 0)), (2, .int (iI p))]) dX1_fullestPage_32 rfl (Nat.le_of_ble_eq_true rfl) rfl ?_
          refine g_iinc S (lv' := [(2, .int (iI (p + 1))), (1, .int (iI p)), (0, .ref (ad 0))]) dX1_fullestPage_33 2 rfl (Nat.le_of_ble_eq_true rfl) rfl ?_
          refine g_goto S (tgt := 8) dX1_fullestPage_36 (by decide) ?_
          refine g_lv [2, 1, 0] rfl ?_
          exact ihL8 (p + 1) p (by omega) (flS_y hp.1 ht (by rw [← e28, ← f28]; exact c28)) (by omega) (by omega)
  refine g_lv [2, 1, 0] rfl ?_
  exact L8 ((pg + 1 - 2) + 1).toNat 2 1 (by omega) (rfl) (by omega) (by omega)
set_option maxHeartbeats 4000000 in
set_option maxRecDepth 100000 in
theorem m_X1_vainSees (l : Launch) (E : EN) {ad : Int → Nat} (hj : INJ ad) (sp : Int → SpT) (se : Int → Int) (al : Int → Nat) (ta : Int → Int) (n pg : Int) (hn : 0 ≤ n ∧ n ≤ 24) (hsp : SPV sp n pg) (hgr : GR se al n) : Met l yX1_vainSees wsX1_vainSees ({ frames := 3, cells := 0, slots := 0, locals := 66 }) (CI E [.ref (ad 0)] (CW E ad sp se al ta n pg)) (QW (some (.int (iI (VAIN sp se n)))) (CW E ad sp se al ta n pg) (fun _ => False)) 0 0 (fun _ => False) := by
  refine g_met (cc := cX1_vainSees) (maxL := 3) (ret := (some .int)) (lv := [(0, .ref (ad 0))]) (by decide) rfl (Nat.le_of_ble_eq_true rfl) rfl ?_
  intro xp xe xs xm xa xb xh xc S xK xr xlk xin
  have kf36 := S.2.2.2.2 (.fieldLink RX1 36 "BookIndex" "headingCount" "I") (by decide +kernel)
  have hin1 : ∀ w ∈ wsX10, w ∈ wsX1_vainSees := by decide +kernel
  have L4 : ∀ (nf : Nat) (o : Int) (t : Int), (0 ≤ o ∧ o ≤ n) → (t = smI (fun h => pI ((fun h => se h ≠ -1 ∧ (eS se n.toNat h = -1 ∨ (sp (eS se n.toNat h)).1 = 0)) h)) o.toNat) → (n - o < (nf : Int)) → G xp l xe ({ frames := 3, cells := 0, slots := 0, locals := 66 }) xs xm xa xb xh xc 3 (fun _ => False) 0 0 (MQ xb (QW (some (.int (iI (VAIN sp se n)))) (CW E ad sp se al ta n pg) (fun _ => False)) xa xs 0 0 (fun _ => False)) 4 [(0, .ref (ad 0)), (1, .int (iI t)), (2, .int (iI o))] [] (CW E ad sp se al ta n pg) := by
    intro nf
    induction nf with
    | zero =>
      intro o t ho ht hmf
      exfalso
      omega
    | succ nf ihL4 =>
      intro o t ho ht hmf
      refine g_iload_n S dX1_vainSees_4 rfl 2 rfl ?_
      refine g_aload_n S dX1_vainSees_5 rfl 0 rfl ?_
      refine g_get S xK (ref := "BookIndex") hin1 7 (by decide) (show vwCl[1]? = some (RX1, TX1, 9) from rfl) kf36 (fun _ h9 => h9) (fun _ h => cw_x h) rfl dX1_vainSees_6 ?_
      refine g_icmp_ge S (tgt := 42) dX1_vainSees_9 (by decide) (by omega) (fun c9 => ?_) (fun c9 => ?_)
      · skip
        refine g_iload_n S dX1_vainSees_42 rfl 1 rfl ?_
        rw [show (VAIN sp se n) = t from by have e : n.toNat = o.toNat := (by omega); rw [ht]; show smI _ n.toNat = _; rw [e]]
        exact g_iret S xr xlk dX1_vainSees_43 (fun _ h => h)
      · skip
        refine g_aload_n S dX1_vainSees_12 rfl 0 rfl ?_
        refine g_iload_n S dX1_vainSees_13 rfl 2 rfl ?_
        refine g_callV S xK (As := [.int (iI o)]) (st := []) (stk' := [.int (iI (se o))]) (Wp' := CW E ad sp se al ta n pg) (r := (RX1, TX1, 9)) (m_X1_seeAt l E hj sp se al ta n pg o (by omega) hn) (cwV 1 S.2.2.2.2 gX1_vainSees_X1_seeAt rfl rfl rfl (by decide +kernel) ⟨Nat.le_of_ble_eq_true rfl, Nat.le_of_ble_eq_true rfl⟩) rfl rfl rfl rfl (Nat.le_of_ble_eq_true rfl) ⟨Nat.le_of_ble_eq_true rfl, Nat.le_of_ble_eq_true rfl⟩ (fun _ q => q.elim) (fun _ h => cw_x h) (fun _ h => h) (fun _ _ _ h _ _ => h) dX1_vainSees_14 ?_
        refine g_iconst S dX1_vainSees_17 ?_
        have s18 := hgr.1 o (by omega) (by omega)
        refine g_icmp_eq S (tgt := 36) dX1_vainSees_18 (by decide) (by omega) (fun c18 => ?_) (fun c18 => ?_)
        · skip
          refine g_iinc S (lv' := [(2, .int (iI (o + 1))), (0, .ref (ad 0)), (1, .int (iI t))]) dX1_vainSees_36 2 rfl (Nat.le_of_ble_eq_true rfl) rfl ?_
          refine g_goto S (tgt := 4) dX1_vainSees_39 (by decide) ?_
          refine g_lv [1, 2, 0] rfl ?_
          exact ihL4 (o + 1) t (by omega) (by rw [smI_s _ ho.1, ← ht]; show t = t + pI ((fun h => se h ≠ -1 ∧ (eS se n.toNat h = -1 ∨ (sp (eS se n.toNat h)).1 = 0)) o); rw [pI_f (fun z => z.1 c18)]; omega) (by omega)
        · skip
          have s21 := eS_rng hgr.1 n.toNat o (by omega) (by omega)
          refine g_aload_n S dX1_vainSees_21 rfl 0 rfl ?_
          refine g_aload_n S dX1_vainSees_22 rfl 0 rfl ?_
          refine g_iload_n S dX1_vainSees_23 rfl 2 rfl ?_
          refine g_callV S xK (As := [.int (iI o)]) (st := [.ref (ad 0)]) (stk' := [.int (iI (eS se n.toNat o)), .ref (ad 0)]) (Wp' := CW E ad sp se al ta n pg) (r := (RX1, TX1, 9)) (m_X1_endOfSees l E hj sp se al ta n pg o (by omega) hn hgr) (cwV 1 S.2.2.2.2 gX1_vainSees_X1_endOfSees rfl rfl rfl (by decide +kernel) ⟨Nat.le_of_ble_eq_true rfl, Nat.le_of_ble_eq_true rfl⟩) rfl rfl rfl rfl (Nat.le_of_ble_eq_true rfl) ⟨Nat.le_of_ble_eq_true rfl, Nat.le_of_ble_eq_true rfl⟩ (fun _ q => q.elim) (fun _ h => cw_x h) (fun _ h => h) (fun _ _ _ h _ _ => h) dX1_vainSees_24 ?_
          refine g_callV S xK (As := [.int (iI (eS se n.toNat o))]) (st := []) (stk' := [.int (iI (pI (eS se n.toNat o = -1 ∨ (sp (eS se n.toNat o)).1 = 0)))]) (Wp' := CW E ad sp se al ta n pg) (r := (RX1, TX1, 9)) (m_X1_isVainEnd l E hj sp se al ta n pg (eS se n.toNat o) (by omega) hn hsp) (cwV 1 S.2.2.2.2 gX1_vainSees_X1_isVainEnd rfl rfl rfl (by decide +kernel) ⟨Nat.le_of_ble_eq_true rfl, Nat.le_of_ble_eq_true rfl⟩) rfl rfl rfl rfl (Nat.le_of_ble_eq_true rfl) ⟨Nat.le_of_ble_eq_true rfl, Nat.le_of_ble_eq_true rfl⟩ (fun _ q => q.elim) (fun _ h => cw_x h) (fun _ h => h) (fun _ _ _ h _ _ => h) dX1_vainSees_27 ?_
          have z30 := pI_b (eS se n.toNat o = -1 ∨ (sp (eS se n.toNat o)).1 = 0)
          refine g_if_eq S (tgt := 36) dX1_vainSees_30 (by decide) (by omega) (fun c30 => ?_) (fun c30 => ?_)
          · skip
            refine g_iinc S (lv' := [(2, .int (iI (o + 1))), (0, .ref (ad 0)), (1, .int (iI t))]) dX1_vainSees_36 2 rfl (Nat.le_of_ble_eq_true rfl) rfl ?_
            refine g_goto S (tgt := 4) dX1_vainSees_39 (by decide) ?_
            refine g_lv [1, 2, 0] rfl ?_
            exact ihL4 (o + 1) t (by omega) (by rw [smI_s _ ho.1, ← ht]; show t = t + pI ((fun h => se h ≠ -1 ∧ (eS se n.toNat h = -1 ∨ (sp (eS se n.toNat h)).1 = 0)) o); rw [pI_f (fun z => pI_eq0 c30 z.2)]; omega) (by omega)
          · skip
            refine g_iinc S (lv' := [(1, .int (iI (t + 1))), (0, .ref (ad 0)), (2, .int (iI o))]) dX1_vainSees_33 1 rfl (Nat.le_of_ble_eq_true rfl) rfl ?_
            refine g_iinc S (lv' := [(2, .int (iI (o + 1))), (1, .int (iI (t + 1))), (0, .ref (ad 0))]) dX1_vainSees_36 2 rfl (Nat.le_of_ble_eq_true rfl) rfl ?_
            refine g_goto S (tgt := 4) dX1_vainSees_39 (by decide) ?_
            refine g_lv [2, 1, 0] rfl ?_
            exact ihL4 (o + 1) (t + 1) (by omega) (by rw [smI_s _ ho.1, ← ht]; show t + 1 = t + pI ((fun h => se h ≠ -1 ∧ (eS se n.toNat h = -1 ∨ (sp (eS se n.toNat h)).1 = 0)) o); rw [pI_t ⟨c18, pI_ne0 c30⟩]) (by omega)
  refine g_iconst S dX1_vainSees_0 ?_
  refine g_istore_n S (lv' := [(1, .int (iI 0)), (0, .ref (ad 0))]) dX1_vainSees_1 rfl (Nat.le_of_ble_eq_true rfl) rfl ?_
  refine g_iconst S dX1_vainSees_2 ?_
  refine g_istore_n S (lv' := [(2, .int (iI 0)), (1, .int (iI 0)), (0, .ref (ad 0))]) dX1_vainSees_3 rfl (Nat.le_of_ble_eq_true rfl) rfl ?_
  refine g_lv [2, 1, 0] rfl ?_
  exact L4 ((n - 0) + 1).toNat 0 0 (by omega) (rfl) (by omega)
set_option maxHeartbeats 4000000 in
set_option maxRecDepth 100000 in
theorem m_X1_unled (l : Launch) (E : EN) {ad : Int → Nat} (hj : INJ ad) (sp : Int → SpT) (se : Int → Int) (al : Int → Nat) (ta : Int → Int) (n pg : Int) (hn : 0 ≤ n ∧ n ≤ 24) (hgr : GR se al n) : Met l yX1_unled wsX1_unled ({ frames := 2, cells := 0, slots := 0, locals := 43 }) (CI E [.ref (ad 0)] (CW E ad sp se al ta n pg)) (QW (some (.int (iI (UNL se al n)))) (CW E ad sp se al ta n pg) (fun _ => False)) 0 0 (fun _ => False) := by
  refine g_met (cc := cX1_unled) (maxL := 2) (ret := (some .int)) (lv := [(0, .ref (ad 0))]) (by decide) rfl (Nat.le_of_ble_eq_true rfl) rfl ?_
  intro xp xe xs xm xa xb xh xc S xK xr xlk xin
  have kf36 := S.2.2.2.2 (.fieldLink RX1 36 "BookIndex" "headingCount" "I") (by decide +kernel)
  have hin1 : ∀ w ∈ wsX10, w ∈ wsX1_unled := by decide +kernel
  refine g_iconst S dX1_unled_0 ?_
  refine g_aload_n S dX1_unled_1 rfl 0 rfl ?_
  refine g_get S xK (ref := "BookIndex") hin1 7 (by decide) (show vwCl[1]? = some (RX1, TX1, 9) from rfl) kf36 (fun _ h9 => h9) (fun _ h => cw_x h) rfl dX1_unled_2 ?_
  refine g_ishl S (z := (iI ((2 ^ n.toNat : Nat) : Int))) dX1_unled_5 (iI_shl1 (by omega)) ?_
  refine g_iconst S dX1_unled_6 ?_
  refine g_isub S dX1_unled_7 ?_
  rw [iI_all]
  refine g_istore_n S (lv' := [(1, .int (iI ((2 ^ n.toNat - 1 : Nat) : Int))), (0, .ref (ad 0))]) dX1_unled_8 rfl (Nat.le_of_ble_eq_true rfl) rfl ?_
  refine g_aload_n S dX1_unled_9 rfl 1 rfl ?_
  refine g_get S xK (ref := "BookIndex") hin1 7 (by decide) (show vwCl[1]? = some (RX1, TX1, 9) from rfl) kf36 (fun _ h9 => h9) (fun _ h => cw_x h) rfl dX1_unled_10 ?_
  refine g_aload_n S dX1_unled_13 rfl 1 rfl ?_
  refine g_iload_n S dX1_unled_14 rfl 0 rfl ?_
  refine g_callV S xK (As := [.int (iI ((2 ^ n.toNat - 1 : Nat) : Int))]) (st := [.int (iI n)]) (stk' := [.int (iI ((stS se al (2 ^ n.toNat - 1) n.toNat : Nat) : Int)), .int (iI n)]) (Wp' := CW E ad sp se al ta n pg) (r := (RX1, TX1, 9)) (m_X1_oneStepFrom l E hj sp se al ta n pg (2 ^ n.toNat - 1) (all_lt hn.1) hn hgr) (cwV 1 S.2.2.2.2 gX1_unled_X1_oneStepFrom rfl rfl rfl (by decide +kernel) ⟨Nat.le_of_ble_eq_true rfl, Nat.le_of_ble_eq_true rfl⟩) rfl rfl rfl rfl (Nat.le_of_ble_eq_true rfl) ⟨Nat.le_of_ble_eq_true rfl, Nat.le_of_ble_eq_true rfl⟩ (fun _ q => q.elim) (fun _ h => cw_x h) (fun _ h => h) (fun _ _ _ h _ _ => h) dX1_unled_15 ?_
  refine g_callS S xK (As := [.int (iI ((stS se al (2 ^ n.toNat - 1) n.toNat : Nat) : Int))]) (st := [.int (iI n)]) (stk' := [.int (iI ((pop (stS se al (2 ^ n.toNat - 1) n.toNat) 24 : Nat) : Int)), .int (iI n)]) (Wp' := CW E ad sp se al ta n pg) (m_J6_bitCount_0f7a4 l E (CW E ad sp se al ta n pg) (stS se al (2 ^ n.toNat - 1) n.toNat) (lt24 hn (stS_lt hgr (2 ^ n.toNat - 1) n.toNat (by omega)))) (va_cwS 1 S.2.2.2.2 gX1_unled_J6_bitCount_0f7a4 rfl rfl rfl (by decide +kernel) ⟨Nat.le_of_ble_eq_true rfl, Nat.le_of_ble_eq_true rfl⟩) rfl rfl rfl (Nat.le_of_ble_eq_true rfl) ⟨Nat.le_of_ble_eq_true rfl, Nat.le_of_ble_eq_true rfl⟩ (fun _ q => q.elim) (fun _ h => h) (fun _ _ _ h _ _ => h) dX1_unled_18 ?_
  refine g_isub S dX1_unled_21 ?_
  exact g_iret S xr xlk dX1_unled_22 (fun _ h => h)
set_option maxHeartbeats 4000000 in
set_option maxRecDepth 100000 in
theorem m_X1_digestWith (l : Launch) (E : EN) {Wp : Heap → Prop} (d x : Int64)  : Met l yX1_digestWith wsX1_digestWith ({ frames := 0, cells := 0, slots := 0, locals := 0 }) (CI E [.long d, .long x] (Wp)) (QW (some (.long (dgW d x))) (Wp) (fun _ => False)) 0 0 (fun _ => False) := by
  refine g_met (cc := cX1_digestWith) (maxL := 4) (ret := (some .long)) (lv := [(0, .long d), (2, .long x)]) (by decide) rfl (Nat.le_of_ble_eq_true rfl) rfl ?_
  intro xp xe xs xm xa xb xh xc S xK xr xlk xin
  have kc207 := S.2.2.2.2 (.constantLong RX1 207 31) (by decide +kernel)
  refine g_lload_n S dX1_digestWith_0 rfl 0 rfl ?_
  refine g_ldc2 S kc207 dX1_digestWith_1 ?_
  refine g_lmul S dX1_digestWith_4 ?_
  refine g_lload_n S dX1_digestWith_5 rfl 1 rfl ?_
  refine g_ladd S dX1_digestWith_6 ?_
  exact g_lret S xr xlk dX1_digestWith_7 (fun _ h => h)
set_option maxHeartbeats 4000000 in
set_option maxRecDepth 100000 in
theorem m_X1_bookPages (l : Launch) (E : EN) {ad : Int → Nat} (hj : INJ ad) (sp : Int → SpT) (se : Int → Int) (al : Int → Nat) (ta : Int → Int) (n pg : Int)  : Met l yX1_bookPages wsX1_bookPages ({ frames := 0, cells := 0, slots := 0, locals := 0 }) (CI E [.ref (ad 0)] (CW E ad sp se al ta n pg)) (QW (some (.int (iI pg))) (CW E ad sp se al ta n pg) (fun _ => False)) 0 0 (fun _ => False) := by
  refine g_met (cc := cX1_bookPages) (maxL := 1) (ret := (some .int)) (lv := [(0, .ref (ad 0))]) (by decide) rfl (Nat.le_of_ble_eq_true rfl) rfl ?_
  intro xp xe xs xm xa xb xh xc S xK xr xlk xin
  have kf40 := S.2.2.2.2 (.fieldLink RX1 40 "BookIndex" "pageCount" "I") (by decide +kernel)
  have hin1 : ∀ w ∈ wsX10, w ∈ wsX1_bookPages := by decide +kernel
  refine g_aload_n S dX1_bookPages_0 rfl 0 rfl ?_
  refine g_get S xK (ref := "BookIndex") hin1 8 (by decide) (show vwCl[1]? = some (RX1, TX1, 9) from rfl) kf40 (fun _ h9 => h9) (fun _ h => cw_x h) rfl dX1_bookPages_1 ?_
  exact g_iret S xr xlk dX1_bookPages_4 (fun _ h => h)
set_option maxHeartbeats 4000000 in
set_option maxRecDepth 100000 in
theorem m_X1_headings (l : Launch) (E : EN) {ad : Int → Nat} (hj : INJ ad) (sp : Int → SpT) (se : Int → Int) (al : Int → Nat) (ta : Int → Int) (n pg : Int)  : Met l yX1_headings wsX1_headings ({ frames := 0, cells := 0, slots := 0, locals := 0 }) (CI E [.ref (ad 0)] (CW E ad sp se al ta n pg)) (QW (some (.int (iI n))) (CW E ad sp se al ta n pg) (fun _ => False)) 0 0 (fun _ => False) := by
  refine g_met (cc := cX1_headings) (maxL := 1) (ret := (some .int)) (lv := [(0, .ref (ad 0))]) (by decide) rfl (Nat.le_of_ble_eq_true rfl) rfl ?_
  intro xp xe xs xm xa xb xh xc S xK xr xlk xin
  have kf36 := S.2.2.2.2 (.fieldLink RX1 36 "BookIndex" "headingCount" "I") (by decide +kernel)
  have hin1 : ∀ w ∈ wsX10, w ∈ wsX1_headings := by decide +kernel
  refine g_aload_n S dX1_headings_0 rfl 0 rfl ?_
  refine g_get S xK (ref := "BookIndex") hin1 7 (by decide) (show vwCl[1]? = some (RX1, TX1, 9) from rfl) kf36 (fun _ h9 => h9) (fun _ h => cw_x h) rfl dX1_headings_1 ?_
  exact g_iret S xr xlk dX1_headings_4 (fun _ h => h)
set_option maxHeartbeats 4000000 in
set_option maxRecDepth 100000 in
theorem m_X1_digestWithHeading (l : Launch) (E : EN) {ad : Int → Nat} (hj : INJ ad) (sp : Int → SpT) (se : Int → Int) (al : Int → Nat) (ta : Int → Int) (n pg : Int) (d : Int64) (u : Int) (hh : 0 ≤ u ∧ u < n) (hn : 0 ≤ n ∧ n ≤ 24) (hpg : 1 ≤ pg ∧ pg ≤ 300) (hsp : SPV sp n pg) (hgr : GR se al n) : Met l yX1_digestWithHeading wsX1_digestWithHeading ({ frames := 4, cells := 0, slots := 0, locals := 89 }) (CI E [.ref (ad 0), .long d, .int (iI u)] (CW E ad sp se al ta n pg)) (QW (some (.long (dgS (sp u) (dgL d (HL sp se al n u)) (sp u).1.toNat))) (CW E ad sp se al ta n pg) (fun _ => False)) 0 0 (fun _ => False) := by
  refine g_met (cc := cX1_digestWithHeading) (maxL := 8) (ret := (some .long)) (lv := [(0, .ref (ad 0)), (1, .long d), (3, .int (iI u))]) (by decide) rfl (Nat.le_of_ble_eq_true rfl) rfl ?_
  intro xp xe xs xm xa xb xh xc S xK xr xlk xin
  have v8 := hsp u (by omega) (by omega)
  have v0 := v8.1.1
  have L120 : ∀ (nf : Nat) (z : Int) (dd : Int64), (0 ≤ z ∧ z ≤ (sp u).1) → (dd = dgS (sp u) (dgL d (HL sp se al n u)) z.toNat) → ((sp u).1 - z < (nf : Int)) → G xp l xe ({ frames := 4, cells := 0, slots := 0, locals := 89 }) xs xm xa xb xh xc 8 (fun _ => False) 0 0 (MQ xb (QW (some (.long (dgS (sp u) (dgL d (HL sp se al n u)) (sp u).1.toNat))) (CW E ad sp se al ta n pg) (fun _ => False)) xa xs 0 0 (fun _ => False)) 120 [(0, .ref (ad 0)), (3, .int (iI u)), (4, .ref (ad (5 + 3 * u))), (5, .long dd), (7, .int (iI z))] [] (CW E ad sp se al ta n pg) := by
    intro nf
    induction nf with
    | zero =>
      intro z dd hz hd hmf
      exfalso
      omega
    | succ nf ihL120 =>
      intro z dd hz hd hmf
      refine g_iload S dX1_digestWithHeading_120 4 rfl ?_
      refine g_aload S dX1_digestWithHeading_122 2 rfl ?_
      refine g_callV S xK (As := []) (st := [.int (iI z)]) (stk' := [.int (iI ((sp u).1)), .int (iI z)]) (Wp' := CW E ad sp se al ta n pg) (r := (RX0, TX0, 3)) (m_X0_count l E hj sp se al ta n pg u (by omega) (sp u) (rfl) ) (cwV 0 S.2.2.2.2 gX1_digestWithHeading_X0_count rfl rfl rfl (by decide +kernel) ⟨Nat.le_of_ble_eq_true rfl, Nat.le_of_ble_eq_true rfl⟩) rfl rfl rfl rfl (Nat.le_of_ble_eq_true rfl) ⟨Nat.le_of_ble_eq_true rfl, Nat.le_of_ble_eq_true rfl⟩ (fun _ q => q.elim) (fun _ h => cw_o (i := u) h (by omega) (rfl)) (fun _ h => h) (fun _ _ _ h _ _ => h) dX1_digestWithHeading_124 ?_
      refine g_icmp_ge S (tgt := 166) dX1_digestWithHeading_127 (by decide) (by omega) (fun c127 => ?_) (fun c127 => ?_)
      · skip
        refine g_lload S dX1_digestWithHeading_166 3 rfl ?_
        rw [show (dgS (sp u) (dgL d (HL sp se al n u)) (sp u).1.toNat) = dd from by rw [hd, show z = (sp u).1 by omega]]
        exact g_lret S xr xlk dX1_digestWithHeading_168 (fun _ h => h)
      · skip
        have eF : spF (sp u) z = (sp u).2.1 z := if_pos (by omega)
        have eL : spL (sp u) z = (sp u).2.2 z := if_pos (by omega)
        refine g_lload S dX1_digestWithHeading_130 3 rfl ?_
        refine g_aload S dX1_digestWithHeading_132 2 rfl ?_
        refine g_iload S dX1_digestWithHeading_134 4 rfl ?_
        refine g_callV S xK (As := [.int (iI z)]) (st := [.long dd]) (stk' := [.int (iI (spF (sp u) z)), .long dd]) (Wp' := CW E ad sp se al ta n pg) (r := (RX0, TX0, 3)) (m_X0_first l E hj sp se al ta n pg u (by omega) (sp u) (rfl) z (vl_wb (by omega) (hsp u (by omega) (by omega)).1) (by omega)) (cwV 1 S.2.2.2.2 gX1_digestWithHeading_X0_first rfl rfl rfl (by decide +kernel) ⟨Nat.le_of_ble_eq_true rfl, Nat.le_of_ble_eq_true rfl⟩) rfl rfl rfl rfl (Nat.le_of_ble_eq_true rfl) ⟨Nat.le_of_ble_eq_true rfl, Nat.le_of_ble_eq_true rfl⟩ (fun _ q => q.elim) (fun _ h => cw_o (i := u) h (by omega) (rfl)) (fun _ h => h) (fun _ _ _ h _ _ => h) dX1_digestWithHeading_136 ?_
        refine g_i2l S dX1_digestWithHeading_139 ?_
        refine g_callS S xK (As := [.long dd, .long (((iI (spF (sp u) z)) : Int32).toInt64)]) (st := []) (stk' := [.long (dgW dd (((iI (spF (sp u) z)) : Int32).toInt64))]) (Wp' := CW E ad sp se al ta n pg) (m_X1_digestWith l E (Wp := CW E ad sp se al ta n pg) dd (((iI (spF (sp u) z)) : Int32).toInt64)) (cwS 2 S.2.2.2.2 gX1_digestWithHeading_X1_digestWith rfl rfl rfl (by decide +kernel) ⟨Nat.le_of_ble_eq_true rfl, Nat.le_of_ble_eq_true rfl⟩) rfl rfl rfl (Nat.le_of_ble_eq_true rfl) ⟨Nat.le_of_ble_eq_true rfl, Nat.le_of_ble_eq_true rfl⟩ (fun _ q => q.elim) (fun _ h => h) (fun _ _ _ h _ _ => h) dX1_digestWithHeading_140 ?_
        refine g_lstore S (lv' := [(5, .long (dgW dd (((iI (spF (sp u) z)) : Int32).toInt64))), (0, .ref (ad 0)), (3, .int (iI u)), (4, .ref (ad (5 + 3 * u))), (7, .int (iI z))]) dX1_digestWithHeading_143 (Nat.le_of_ble_eq_true rfl) rfl ?_
        refine g_lload S dX1_digestWithHeading_145 0 rfl ?_
        refine g_aload S dX1_digestWithHeading_147 3 rfl ?_
        refine g_iload S dX1_digestWithHeading_149 4 rfl ?_
        refine g_callV S xK (As := [.int (iI z)]) (st := [.long (dgW dd (((iI (spF (sp u) z)) : Int32).toInt64))]) (stk' := [.int (iI (spL (sp u) z)), .long (dgW dd (((iI (spF (sp u) z)) : Int32).toInt64))]) (Wp' := CW E ad sp se al ta n pg) (r := (RX0, TX0, 3)) (m_X0_last l E hj sp se al ta n pg u (by omega) (sp u) (rfl) z (vl_wb (by omega) (hsp u (by omega) (by omega)).1) (by omega)) (cwV 1 S.2.2.2.2 gX1_digestWithHeading_X0_last rfl rfl rfl (by decide +kernel) ⟨Nat.le_of_ble_eq_true rfl, Nat.le_of_ble_eq_true rfl⟩) rfl rfl rfl rfl (Nat.le_of_ble_eq_true rfl) ⟨Nat.le_of_ble_eq_true rfl, Nat.le_of_ble_eq_true rfl⟩ (fun _ q => q.elim) (fun _ h => cw_o (i := u) h (by omega) (rfl)) (fun _ h => h) (fun _ _ _ h _ _ => h) dX1_digestWithHeading_151 ?_
        refine g_i2l S dX1_digestWithHeading_154 ?_
        refine g_callS S xK (As := [.long (dgW dd (((iI (spF (sp u) z)) : Int32).toInt64)), .long (((iI (spL (sp u) z)) : Int32).toInt64)]) (st := []) (stk' := [.long (dgW (dgW dd (((iI (spF (sp u) z)) : Int32).toInt64)) (((iI (spL (sp u) z)) : Int32).toInt64))]) (Wp' := CW E ad sp se al ta n pg) (m_X1_digestWith l E (Wp := CW E ad sp se al ta n pg) (dgW dd (((iI (spF (sp u) z)) : Int32).toInt64)) (((iI (spL (sp u) z)) : Int32).toInt64)) (cwS 2 S.2.2.2.2 gX1_digestWithHeading_X1_digestWith rfl rfl rfl (by decide +kernel) ⟨Nat.le_of_ble_eq_true rfl, Nat.le_of_ble_eq_true rfl⟩) rfl rfl rfl (Nat.le_of_ble_eq_true rfl) ⟨Nat.le_of_ble_eq_true rfl, Nat.le_of_ble_eq_true rfl⟩ (fun _ q => q.elim) (fun _ h => h) (fun _ _ _ h _ _ => h) dX1_digestWithHeading_155 ?_
        refine g_lstore S (lv' := [(5, .long (dgW (dgW dd (((iI (spF (sp u) z)) : Int32).toInt64)) (((iI (spL (sp u) z)) : Int32).toInt64))), (0, .ref (ad 0)), (3, .int (iI u)), (4, .ref (ad (5 + 3 * u))), (7, .int (iI z))]) dX1_digestWithHeading_158 (Nat.le_of_ble_eq_true rfl) rfl ?_
        refine g_iinc S (lv' := [(7, .int (iI (z + 1))), (5, .long (dgW (dgW dd (((iI (spF (sp u) z)) : Int32).toInt64)) (((iI (spL (sp u) z)) : Int32).toInt64))), (0, .ref (ad 0)), (3, .int (iI u)), (4, .ref (ad (5 + 3 * u)))]) dX1_digestWithHeading_160 4 rfl (Nat.le_of_ble_eq_true rfl) rfl ?_
        refine g_goto S (tgt := 120) dX1_digestWithHeading_163 (by decide) ?_
        refine g_lv [2, 3, 4, 1, 0] rfl ?_
        exact ihL120 (z + 1) (dgW (dgW dd (((iI (spF (sp u) z)) : Int32).toInt64)) (((iI (spL (sp u) z)) : Int32).toInt64)) (by omega) (by rw [dgS_s _ _ hz.1, ← hd, eF, eL]) (by omega)
  have L99 : ∀ (vr : Int64) (da : Int64), (vr = (iI (pI (RNG se al n u))).toInt64) → (da = dgL d [(sp u).1, PGS (sp u), se u, ((pop (al u) 24 : Nat) : Int), eS se n.toNat u, RCH se al n u]) → G xp l xe ({ frames := 4, cells := 0, slots := 0, locals := 89 }) xs xm xa xb xh xc 8 (fun _ => False) 0 0 (MQ xb (QW (some (.long (dgS (sp u) (dgL d (HL sp se al n u)) (sp u).1.toNat))) (CW E ad sp se al ta n pg) (fun _ => False)) xa xs 0 0 (fun _ => False)) 99 [(0, .ref (ad 0)), (3, .int (iI u)), (4, .ref (ad (5 + 3 * u)))] [.long vr, .long da] (CW E ad sp se al ta n pg) := by
    intro vr da hvr hda
    refine g_callS S xK (As := [.long da, .long vr]) (st := []) (stk' := [.long (dgW da vr)]) (Wp' := CW E ad sp se al ta n pg) (m_X1_digestWith l E (Wp := CW E ad sp se al ta n pg) da vr) (cwS 2 S.2.2.2.2 gX1_digestWithHeading_X1_digestWith rfl rfl rfl (by decide +kernel) ⟨Nat.le_of_ble_eq_true rfl, Nat.le_of_ble_eq_true rfl⟩) rfl rfl rfl (Nat.le_of_ble_eq_true rfl) ⟨Nat.le_of_ble_eq_true rfl, Nat.le_of_ble_eq_true rfl⟩ (fun _ q => q.elim) (fun _ h => h) (fun _ _ _ h _ _ => h) dX1_digestWithHeading_99 ?_
    refine g_lstore S (lv' := [(5, .long (dgW da vr)), (0, .ref (ad 0)), (3, .int (iI u)), (4, .ref (ad (5 + 3 * u)))]) dX1_digestWithHeading_102 (Nat.le_of_ble_eq_true rfl) rfl ?_
    refine g_lload S dX1_digestWithHeading_104 0 rfl ?_
    refine g_aload_n S dX1_digestWithHeading_106 rfl 1 rfl ?_
    refine g_iload_n S dX1_digestWithHeading_107 rfl 2 rfl ?_
    refine g_callV S xK (As := [.int (iI u)]) (st := [.long (dgW da vr)]) (stk' := [.int (iI ((nrS (fun o => if o = u then 0 else pic (sp u) (sp o) ((sp u).1 + (sp o).1).toNat 0 0 0) n.toNat).1)), .long (dgW da vr)]) (Wp' := CW E ad sp se al ta n pg) (r := (RX1, TX1, 9)) (m_X1_nearestOther l E hj sp se al ta n pg u (by omega) hn hpg hsp) (cwV 1 S.2.2.2.2 gX1_digestWithHeading_X1_nearestOther rfl rfl rfl (by decide +kernel) ⟨Nat.le_of_ble_eq_true rfl, Nat.le_of_ble_eq_true rfl⟩) rfl rfl rfl rfl (Nat.le_of_ble_eq_true rfl) ⟨Nat.le_of_ble_eq_true rfl, Nat.le_of_ble_eq_true rfl⟩ (fun _ q => q.elim) (fun _ h => cw_x h) (fun _ h => h) (fun _ _ _ h _ _ => h) dX1_digestWithHeading_108 ?_
    refine g_i2l S dX1_digestWithHeading_111 ?_
    refine g_callS S xK (As := [.long (dgW da vr), .long (((iI ((nrS (fun o => if o = u then 0 else pic (sp u) (sp o) ((sp u).1 + (sp o).1).toNat 0 0 0) n.toNat).1)) : Int32).toInt64)]) (st := []) (stk' := [.long (dgW (dgW da vr) (((iI ((nrS (fun o => if o = u then 0 else pic (sp u) (sp o) ((sp u).1 + (sp o).1).toNat 0 0 0) n.toNat).1)) : Int32).toInt64))]) (Wp' := CW E ad sp se al ta n pg) (m_X1_digestWith l E (Wp := CW E ad sp se al ta n pg) (dgW da vr) (((iI ((nrS (fun o => if o = u then 0 else pic (sp u) (sp o) ((sp u).1 + (sp o).1).toNat 0 0 0) n.toNat).1)) : Int32).toInt64)) (cwS 2 S.2.2.2.2 gX1_digestWithHeading_X1_digestWith rfl rfl rfl (by decide +kernel) ⟨Nat.le_of_ble_eq_true rfl, Nat.le_of_ble_eq_true rfl⟩) rfl rfl rfl (Nat.le_of_ble_eq_true rfl) ⟨Nat.le_of_ble_eq_true rfl, Nat.le_of_ble_eq_true rfl⟩ (fun _ q => q.elim) (fun _ h => h) (fun _ _ _ h _ _ => h) dX1_digestWithHeading_112 ?_
    refine g_lstore S (lv' := [(5, .long (dgW (dgW da vr) (((iI ((nrS (fun o => if o = u then 0 else pic (sp u) (sp o) ((sp u).1 + (sp o).1).toNat 0 0 0) n.toNat).1)) : Int32).toInt64))), (0, .ref (ad 0)), (3, .int (iI u)), (4, .ref (ad (5 + 3 * u)))]) dX1_digestWithHeading_115 (Nat.le_of_ble_eq_true rfl) rfl ?_
    refine g_iconst S dX1_digestWithHeading_117 ?_
    refine g_istore S (lv' := [(7, .int (iI 0)), (5, .long (dgW (dgW da vr) (((iI ((nrS (fun o => if o = u then 0 else pic (sp u) (sp o) ((sp u).1 + (sp o).1).toNat 0 0 0) n.toNat).1)) : Int32).toInt64))), (0, .ref (ad 0)), (3, .int (iI u)), (4, .ref (ad (5 + 3 * u)))]) dX1_digestWithHeading_118 (Nat.le_of_ble_eq_true rfl) rfl ?_
    refine g_lv [2, 3, 4, 1, 0] rfl ?_
    exact L120 (((sp u).1 - 0) + 1).toNat 0 (dgW (dgW da vr) (((iI ((nrS (fun o => if o = u then 0 else pic (sp u) (sp o) ((sp u).1 + (sp o).1).toNat 0 0 0) n.toNat).1)) : Int32).toInt64)) (by omega) (by rw [hvr, hda]; rfl) (by omega)
  refine g_aload_n S dX1_digestWithHeading_0 rfl 0 rfl ?_
  refine g_iload_n S dX1_digestWithHeading_1 rfl 2 rfl ?_
  refine g_callV S xK (As := [.int (iI u)]) (st := []) (stk' := [.ref (ad (5 + 3 * u))]) (Wp' := CW E ad sp se al ta n pg) (r := (RX1, TX1, 9)) (m_X1_spansAt l E hj sp se al ta n pg u (by omega) hn) (cwV 1 S.2.2.2.2 gX1_digestWithHeading_X1_spansAt rfl rfl rfl (by decide +kernel) ⟨Nat.le_of_ble_eq_true rfl, Nat.le_of_ble_eq_true rfl⟩) rfl rfl rfl rfl (Nat.le_of_ble_eq_true rfl) ⟨Nat.le_of_ble_eq_true rfl, Nat.le_of_ble_eq_true rfl⟩ (fun _ q => q.elim) (fun _ h => cw_x h) (fun _ h => h) (fun _ _ _ h _ _ => h) dX1_digestWithHeading_2 ?_
  refine g_astore S (lv' := [(4, .ref (ad (5 + 3 * u))), (0, .ref (ad 0)), (1, .long d), (3, .int (iI u))]) dX1_digestWithHeading_5 (Nat.le_of_ble_eq_true rfl) rfl ?_
  refine g_lload_n S dX1_digestWithHeading_7 rfl 2 rfl ?_
  refine g_aload S dX1_digestWithHeading_8 0 rfl ?_
  refine g_callV S xK (As := []) (st := [.long d]) (stk' := [.int (iI ((sp u).1)), .long d]) (Wp' := CW E ad sp se al ta n pg) (r := (RX0, TX0, 3)) (m_X0_count l E hj sp se al ta n pg u (by omega) (sp u) (rfl) ) (cwV 0 S.2.2.2.2 gX1_digestWithHeading_X0_count rfl rfl rfl (by decide +kernel) ⟨Nat.le_of_ble_eq_true rfl, Nat.le_of_ble_eq_true rfl⟩) rfl rfl rfl rfl (Nat.le_of_ble_eq_true rfl) ⟨Nat.le_of_ble_eq_true rfl, Nat.le_of_ble_eq_true rfl⟩ (fun _ q => q.elim) (fun _ h => cw_o (i := u) h (by omega) (rfl)) (fun _ h => h) (fun _ _ _ h _ _ => h) dX1_digestWithHeading_10 ?_
  refine g_i2l S dX1_digestWithHeading_13 ?_
  refine g_callS S xK (As := [.long d, .long (((iI ((sp u).1)) : Int32).toInt64)]) (st := []) (stk' := [.long (dgW d (((iI ((sp u).1)) : Int32).toInt64))]) (Wp' := CW E ad sp se al ta n pg) (m_X1_digestWith l E (Wp := CW E ad sp se al ta n pg) d (((iI ((sp u).1)) : Int32).toInt64)) (cwS 2 S.2.2.2.2 gX1_digestWithHeading_X1_digestWith rfl rfl rfl (by decide +kernel) ⟨Nat.le_of_ble_eq_true rfl, Nat.le_of_ble_eq_true rfl⟩) rfl rfl rfl (Nat.le_of_ble_eq_true rfl) ⟨Nat.le_of_ble_eq_true rfl, Nat.le_of_ble_eq_true rfl⟩ (fun _ q => q.elim) (fun _ h => h) (fun _ _ _ h _ _ => h) dX1_digestWithHeading_14 ?_
  refine g_lstore S (lv' := [(5, .long (dgW d (((iI ((sp u).1)) : Int32).toInt64))), (4, .ref (ad (5 + 3 * u))), (0, .ref (ad 0)), (1, .long d), (3, .int (iI u))]) dX1_digestWithHeading_17 (Nat.le_of_ble_eq_true rfl) rfl ?_
  refine g_lload S dX1_digestWithHeading_19 0 rfl ?_
  refine g_aload S dX1_digestWithHeading_21 1 rfl ?_
  refine g_callV S xK (As := []) (st := [.long (dgW d (((iI ((sp u).1)) : Int32).toInt64))]) (stk' := [.int (iI (smI (fun k => (sp u).2.2 k - (sp u).2.1 k + 1) ((sp u).1).toNat)), .long (dgW d (((iI ((sp u).1)) : Int32).toInt64))]) (Wp' := CW E ad sp se al ta n pg) (r := (RX0, TX0, 3)) (m_X0_pages l E hj sp se al ta n pg u (by omega) (sp u) (rfl) (vl_wb (by omega) (hsp u (by omega) (by omega)).1)) (cwV 0 S.2.2.2.2 gX1_digestWithHeading_X0_pages rfl rfl rfl (by decide +kernel) ⟨Nat.le_of_ble_eq_true rfl, Nat.le_of_ble_eq_true rfl⟩) rfl rfl rfl rfl (Nat.le_of_ble_eq_true rfl) ⟨Nat.le_of_ble_eq_true rfl, Nat.le_of_ble_eq_true rfl⟩ (fun _ q => q.elim) (fun _ h => cw_o (i := u) h (by omega) (rfl)) (fun _ h => h) (fun _ _ _ h _ _ => h) dX1_digestWithHeading_23 ?_
  refine g_i2l S dX1_digestWithHeading_26 ?_
  refine g_callS S xK (As := [.long (dgW d (((iI ((sp u).1)) : Int32).toInt64)), .long (((iI (smI (fun k => (sp u).2.2 k - (sp u).2.1 k + 1) ((sp u).1).toNat)) : Int32).toInt64)]) (st := []) (stk' := [.long (dgW (dgW d (((iI ((sp u).1)) : Int32).toInt64)) (((iI (smI (fun k => (sp u).2.2 k - (sp u).2.1 k + 1) ((sp u).1).toNat)) : Int32).toInt64))]) (Wp' := CW E ad sp se al ta n pg) (m_X1_digestWith l E (Wp := CW E ad sp se al ta n pg) (dgW d (((iI ((sp u).1)) : Int32).toInt64)) (((iI (smI (fun k => (sp u).2.2 k - (sp u).2.1 k + 1) ((sp u).1).toNat)) : Int32).toInt64)) (cwS 2 S.2.2.2.2 gX1_digestWithHeading_X1_digestWith rfl rfl rfl (by decide +kernel) ⟨Nat.le_of_ble_eq_true rfl, Nat.le_of_ble_eq_true rfl⟩) rfl rfl rfl (Nat.le_of_ble_eq_true rfl) ⟨Nat.le_of_ble_eq_true rfl, Nat.le_of_ble_eq_true rfl⟩ (fun _ q => q.elim) (fun _ h => h) (fun _ _ _ h _ _ => h) dX1_digestWithHeading_27 ?_
  refine g_lstore S (lv' := [(5, .long (dgW (dgW d (((iI ((sp u).1)) : Int32).toInt64)) (((iI (smI (fun k => (sp u).2.2 k - (sp u).2.1 k + 1) ((sp u).1).toNat)) : Int32).toInt64))), (4, .ref (ad (5 + 3 * u))), (0, .ref (ad 0)), (1, .long d), (3, .int (iI u))]) dX1_digestWithHeading_30 (Nat.le_of_ble_eq_true rfl) rfl ?_
  refine g_lload S dX1_digestWithHeading_32 0 rfl ?_
  refine g_aload_n S dX1_digestWithHeading_34 rfl 2 rfl ?_
  refine g_iload_n S dX1_digestWithHeading_35 rfl 4 rfl ?_
  refine g_callV S xK (As := [.int (iI u)]) (st := [.long (dgW (dgW d (((iI ((sp u).1)) : Int32).toInt64)) (((iI (smI (fun k => (sp u).2.2 k - (sp u).2.1 k + 1) ((sp u).1).toNat)) : Int32).toInt64))]) (stk' := [.int (iI (se u)), .long (dgW (dgW d (((iI ((sp u).1)) : Int32).toInt64)) (((iI (smI (fun k => (sp u).2.2 k - (sp u).2.1 k + 1) ((sp u).1).toNat)) : Int32).toInt64))]) (Wp' := CW E ad sp se al ta n pg) (r := (RX1, TX1, 9)) (m_X1_seeAt l E hj sp se al ta n pg u (by omega) hn) (cwV 1 S.2.2.2.2 gX1_digestWithHeading_X1_seeAt rfl rfl rfl (by decide +kernel) ⟨Nat.le_of_ble_eq_true rfl, Nat.le_of_ble_eq_true rfl⟩) rfl rfl rfl rfl (Nat.le_of_ble_eq_true rfl) ⟨Nat.le_of_ble_eq_true rfl, Nat.le_of_ble_eq_true rfl⟩ (fun _ q => q.elim) (fun _ h => cw_x h) (fun _ h => h) (fun _ _ _ h _ _ => h) dX1_digestWithHeading_36 ?_
  refine g_i2l S dX1_digestWithHeading_39 ?_
  refine g_callS S xK (As := [.long (dgW (dgW d (((iI ((sp u).1)) : Int32).toInt64)) (((iI (smI (fun k => (sp u).2.2 k - (sp u).2.1 k + 1) ((sp u).1).toNat)) : Int32).toInt64)), .long (((iI (se u)) : Int32).toInt64)]) (st := []) (stk' := [.long (dgW (dgW (dgW d (((iI ((sp u).1)) : Int32).toInt64)) (((iI (smI (fun k => (sp u).2.2 k - (sp u).2.1 k + 1) ((sp u).1).toNat)) : Int32).toInt64)) (((iI (se u)) : Int32).toInt64))]) (Wp' := CW E ad sp se al ta n pg) (m_X1_digestWith l E (Wp := CW E ad sp se al ta n pg) (dgW (dgW d (((iI ((sp u).1)) : Int32).toInt64)) (((iI (smI (fun k => (sp u).2.2 k - (sp u).2.1 k + 1) ((sp u).1).toNat)) : Int32).toInt64)) (((iI (se u)) : Int32).toInt64)) (cwS 2 S.2.2.2.2 gX1_digestWithHeading_X1_digestWith rfl rfl rfl (by decide +kernel) ⟨Nat.le_of_ble_eq_true rfl, Nat.le_of_ble_eq_true rfl⟩) rfl rfl rfl (Nat.le_of_ble_eq_true rfl) ⟨Nat.le_of_ble_eq_true rfl, Nat.le_of_ble_eq_true rfl⟩ (fun _ q => q.elim) (fun _ h => h) (fun _ _ _ h _ _ => h) dX1_digestWithHeading_40 ?_
  refine g_lstore S (lv' := [(5, .long (dgW (dgW (dgW d (((iI ((sp u).1)) : Int32).toInt64)) (((iI (smI (fun k => (sp u).2.2 k - (sp u).2.1 k + 1) ((sp u).1).toNat)) : Int32).toInt64)) (((iI (se u)) : Int32).toInt64))), (4, .ref (ad (5 + 3 * u))), (0, .ref (ad 0)), (1, .long d), (3, .int (iI u))]) dX1_digestWithHeading_43 (Nat.le_of_ble_eq_true rfl) rfl ?_
  refine g_lload S dX1_digestWithHeading_45 0 rfl ?_
  refine g_aload_n S dX1_digestWithHeading_47 rfl 2 rfl ?_
  refine g_iload_n S dX1_digestWithHeading_48 rfl 4 rfl ?_
  refine g_callV S xK (As := [.int (iI u)]) (st := [.long (dgW (dgW (dgW d (((iI ((sp u).1)) : Int32).toInt64)) (((iI (smI (fun k => (sp u).2.2 k - (sp u).2.1 k + 1) ((sp u).1).toNat)) : Int32).toInt64)) (((iI (se u)) : Int32).toInt64))]) (stk' := [.int (iI ((pop (al u) 24 : Nat) : Int)), .long (dgW (dgW (dgW d (((iI ((sp u).1)) : Int32).toInt64)) (((iI (smI (fun k => (sp u).2.2 k - (sp u).2.1 k + 1) ((sp u).1).toNat)) : Int32).toInt64)) (((iI (se u)) : Int32).toInt64))]) (Wp' := CW E ad sp se al ta n pg) (r := (RX1, TX1, 9)) (m_X1_countSeeAlsos l E hj sp se al ta n pg u (by omega) hn hgr) (cwV 1 S.2.2.2.2 gX1_digestWithHeading_X1_countSeeAlsos rfl rfl rfl (by decide +kernel) ⟨Nat.le_of_ble_eq_true rfl, Nat.le_of_ble_eq_true rfl⟩) rfl rfl rfl rfl (Nat.le_of_ble_eq_true rfl) ⟨Nat.le_of_ble_eq_true rfl, Nat.le_of_ble_eq_true rfl⟩ (fun _ q => q.elim) (fun _ h => cw_x h) (fun _ h => h) (fun _ _ _ h _ _ => h) dX1_digestWithHeading_49 ?_
  refine g_i2l S dX1_digestWithHeading_52 ?_
  refine g_callS S xK (As := [.long (dgW (dgW (dgW d (((iI ((sp u).1)) : Int32).toInt64)) (((iI (smI (fun k => (sp u).2.2 k - (sp u).2.1 k + 1) ((sp u).1).toNat)) : Int32).toInt64)) (((iI (se u)) : Int32).toInt64)), .long (((iI ((pop (al u) 24 : Nat) : Int)) : Int32).toInt64)]) (st := []) (stk' := [.long (dgW (dgW (dgW (dgW d (((iI ((sp u).1)) : Int32).toInt64)) (((iI (smI (fun k => (sp u).2.2 k - (sp u).2.1 k + 1) ((sp u).1).toNat)) : Int32).toInt64)) (((iI (se u)) : Int32).toInt64)) (((iI ((pop (al u) 24 : Nat) : Int)) : Int32).toInt64))]) (Wp' := CW E ad sp se al ta n pg) (m_X1_digestWith l E (Wp := CW E ad sp se al ta n pg) (dgW (dgW (dgW d (((iI ((sp u).1)) : Int32).toInt64)) (((iI (smI (fun k => (sp u).2.2 k - (sp u).2.1 k + 1) ((sp u).1).toNat)) : Int32).toInt64)) (((iI (se u)) : Int32).toInt64)) (((iI ((pop (al u) 24 : Nat) : Int)) : Int32).toInt64)) (cwS 2 S.2.2.2.2 gX1_digestWithHeading_X1_digestWith rfl rfl rfl (by decide +kernel) ⟨Nat.le_of_ble_eq_true rfl, Nat.le_of_ble_eq_true rfl⟩) rfl rfl rfl (Nat.le_of_ble_eq_true rfl) ⟨Nat.le_of_ble_eq_true rfl, Nat.le_of_ble_eq_true rfl⟩ (fun _ q => q.elim) (fun _ h => h) (fun _ _ _ h _ _ => h) dX1_digestWithHeading_53 ?_
  refine g_lstore S (lv' := [(5, .long (dgW (dgW (dgW (dgW d (((iI ((sp u).1)) : Int32).toInt64)) (((iI (smI (fun k => (sp u).2.2 k - (sp u).2.1 k + 1) ((sp u).1).toNat)) : Int32).toInt64)) (((iI (se u)) : Int32).toInt64)) (((iI ((pop (al u) 24 : Nat) : Int)) : Int32).toInt64))), (4, .ref (ad (5 + 3 * u))), (0, .ref (ad 0)), (1, .long d), (3, .int (iI u))]) dX1_digestWithHeading_56 (Nat.le_of_ble_eq_true rfl) rfl ?_
  refine g_lload S dX1_digestWithHeading_58 0 rfl ?_
  refine g_aload_n S dX1_digestWithHeading_60 rfl 2 rfl ?_
  refine g_iload_n S dX1_digestWithHeading_61 rfl 4 rfl ?_
  refine g_callV S xK (As := [.int (iI u)]) (st := [.long (dgW (dgW (dgW (dgW d (((iI ((sp u).1)) : Int32).toInt64)) (((iI (smI (fun k => (sp u).2.2 k - (sp u).2.1 k + 1) ((sp u).1).toNat)) : Int32).toInt64)) (((iI (se u)) : Int32).toInt64)) (((iI ((pop (al u) 24 : Nat) : Int)) : Int32).toInt64))]) (stk' := [.int (iI (eS se n.toNat u)), .long (dgW (dgW (dgW (dgW d (((iI ((sp u).1)) : Int32).toInt64)) (((iI (smI (fun k => (sp u).2.2 k - (sp u).2.1 k + 1) ((sp u).1).toNat)) : Int32).toInt64)) (((iI (se u)) : Int32).toInt64)) (((iI ((pop (al u) 24 : Nat) : Int)) : Int32).toInt64))]) (Wp' := CW E ad sp se al ta n pg) (r := (RX1, TX1, 9)) (m_X1_endOfSees l E hj sp se al ta n pg u (by omega) hn hgr) (cwV 1 S.2.2.2.2 gX1_digestWithHeading_X1_endOfSees rfl rfl rfl (by decide +kernel) ⟨Nat.le_of_ble_eq_true rfl, Nat.le_of_ble_eq_true rfl⟩) rfl rfl rfl rfl (Nat.le_of_ble_eq_true rfl) ⟨Nat.le_of_ble_eq_true rfl, Nat.le_of_ble_eq_true rfl⟩ (fun _ q => q.elim) (fun _ h => cw_x h) (fun _ h => h) (fun _ _ _ h _ _ => h) dX1_digestWithHeading_62 ?_
  refine g_i2l S dX1_digestWithHeading_65 ?_
  refine g_callS S xK (As := [.long (dgW (dgW (dgW (dgW d (((iI ((sp u).1)) : Int32).toInt64)) (((iI (smI (fun k => (sp u).2.2 k - (sp u).2.1 k + 1) ((sp u).1).toNat)) : Int32).toInt64)) (((iI (se u)) : Int32).toInt64)) (((iI ((pop (al u) 24 : Nat) : Int)) : Int32).toInt64)), .long (((iI (eS se n.toNat u)) : Int32).toInt64)]) (st := []) (stk' := [.long (dgW (dgW (dgW (dgW (dgW d (((iI ((sp u).1)) : Int32).toInt64)) (((iI (smI (fun k => (sp u).2.2 k - (sp u).2.1 k + 1) ((sp u).1).toNat)) : Int32).toInt64)) (((iI (se u)) : Int32).toInt64)) (((iI ((pop (al u) 24 : Nat) : Int)) : Int32).toInt64)) (((iI (eS se n.toNat u)) : Int32).toInt64))]) (Wp' := CW E ad sp se al ta n pg) (m_X1_digestWith l E (Wp := CW E ad sp se al ta n pg) (dgW (dgW (dgW (dgW d (((iI ((sp u).1)) : Int32).toInt64)) (((iI (smI (fun k => (sp u).2.2 k - (sp u).2.1 k + 1) ((sp u).1).toNat)) : Int32).toInt64)) (((iI (se u)) : Int32).toInt64)) (((iI ((pop (al u) 24 : Nat) : Int)) : Int32).toInt64)) (((iI (eS se n.toNat u)) : Int32).toInt64)) (cwS 2 S.2.2.2.2 gX1_digestWithHeading_X1_digestWith rfl rfl rfl (by decide +kernel) ⟨Nat.le_of_ble_eq_true rfl, Nat.le_of_ble_eq_true rfl⟩) rfl rfl rfl (Nat.le_of_ble_eq_true rfl) ⟨Nat.le_of_ble_eq_true rfl, Nat.le_of_ble_eq_true rfl⟩ (fun _ q => q.elim) (fun _ h => h) (fun _ _ _ h _ _ => h) dX1_digestWithHeading_66 ?_
  refine g_lstore S (lv' := [(5, .long (dgW (dgW (dgW (dgW (dgW d (((iI ((sp u).1)) : Int32).toInt64)) (((iI (smI (fun k => (sp u).2.2 k - (sp u).2.1 k + 1) ((sp u).1).toNat)) : Int32).toInt64)) (((iI (se u)) : Int32).toInt64)) (((iI ((pop (al u) 24 : Nat) : Int)) : Int32).toInt64)) (((iI (eS se n.toNat u)) : Int32).toInt64))), (4, .ref (ad (5 + 3 * u))), (0, .ref (ad 0)), (1, .long d), (3, .int (iI u))]) dX1_digestWithHeading_69 (Nat.le_of_ble_eq_true rfl) rfl ?_
  refine g_lload S dX1_digestWithHeading_71 0 rfl ?_
  refine g_aload_n S dX1_digestWithHeading_73 rfl 2 rfl ?_
  refine g_iload_n S dX1_digestWithHeading_74 rfl 4 rfl ?_
  refine g_callV S xK (As := [.int (iI u)]) (st := [.long (dgW (dgW (dgW (dgW (dgW d (((iI ((sp u).1)) : Int32).toInt64)) (((iI (smI (fun k => (sp u).2.2 k - (sp u).2.1 k + 1) ((sp u).1).toNat)) : Int32).toInt64)) (((iI (se u)) : Int32).toInt64)) (((iI ((pop (al u) 24 : Nat) : Int)) : Int32).toInt64)) (((iI (eS se n.toNat u)) : Int32).toInt64))]) (stk' := [.int (iI ((pop (itS se al n 24 (2 ^ u.toNat)) 24 : Nat) : Int)), .long (dgW (dgW (dgW (dgW (dgW d (((iI ((sp u).1)) : Int32).toInt64)) (((iI (smI (fun k => (sp u).2.2 k - (sp u).2.1 k + 1) ((sp u).1).toNat)) : Int32).toInt64)) (((iI (se u)) : Int32).toInt64)) (((iI ((pop (al u) 24 : Nat) : Int)) : Int32).toInt64)) (((iI (eS se n.toNat u)) : Int32).toInt64))]) (Wp' := CW E ad sp se al ta n pg) (r := (RX1, TX1, 9)) (m_X1_countReached l E hj sp se al ta n pg u (by omega) hn hgr) (cwV 1 S.2.2.2.2 gX1_digestWithHeading_X1_countReached rfl rfl rfl (by decide +kernel) ⟨Nat.le_of_ble_eq_true rfl, Nat.le_of_ble_eq_true rfl⟩) rfl rfl rfl rfl (Nat.le_of_ble_eq_true rfl) ⟨Nat.le_of_ble_eq_true rfl, Nat.le_of_ble_eq_true rfl⟩ (fun _ q => q.elim) (fun _ h => cw_x h) (fun _ h => h) (fun _ _ _ h _ _ => h) dX1_digestWithHeading_75 ?_
  refine g_i2l S dX1_digestWithHeading_78 ?_
  refine g_callS S xK (As := [.long (dgW (dgW (dgW (dgW (dgW d (((iI ((sp u).1)) : Int32).toInt64)) (((iI (smI (fun k => (sp u).2.2 k - (sp u).2.1 k + 1) ((sp u).1).toNat)) : Int32).toInt64)) (((iI (se u)) : Int32).toInt64)) (((iI ((pop (al u) 24 : Nat) : Int)) : Int32).toInt64)) (((iI (eS se n.toNat u)) : Int32).toInt64)), .long (((iI ((pop (itS se al n 24 (2 ^ u.toNat)) 24 : Nat) : Int)) : Int32).toInt64)]) (st := []) (stk' := [.long (dgW (dgW (dgW (dgW (dgW (dgW d (((iI ((sp u).1)) : Int32).toInt64)) (((iI (smI (fun k => (sp u).2.2 k - (sp u).2.1 k + 1) ((sp u).1).toNat)) : Int32).toInt64)) (((iI (se u)) : Int32).toInt64)) (((iI ((pop (al u) 24 : Nat) : Int)) : Int32).toInt64)) (((iI (eS se n.toNat u)) : Int32).toInt64)) (((iI ((pop (itS se al n 24 (2 ^ u.toNat)) 24 : Nat) : Int)) : Int32).toInt64))]) (Wp' := CW E ad sp se al ta n pg) (m_X1_digestWith l E (Wp := CW E ad sp se al ta n pg) (dgW (dgW (dgW (dgW (dgW d (((iI ((sp u).1)) : Int32).toInt64)) (((iI (smI (fun k => (sp u).2.2 k - (sp u).2.1 k + 1) ((sp u).1).toNat)) : Int32).toInt64)) (((iI (se u)) : Int32).toInt64)) (((iI ((pop (al u) 24 : Nat) : Int)) : Int32).toInt64)) (((iI (eS se n.toNat u)) : Int32).toInt64)) (((iI ((pop (itS se al n 24 (2 ^ u.toNat)) 24 : Nat) : Int)) : Int32).toInt64)) (cwS 2 S.2.2.2.2 gX1_digestWithHeading_X1_digestWith rfl rfl rfl (by decide +kernel) ⟨Nat.le_of_ble_eq_true rfl, Nat.le_of_ble_eq_true rfl⟩) rfl rfl rfl (Nat.le_of_ble_eq_true rfl) ⟨Nat.le_of_ble_eq_true rfl, Nat.le_of_ble_eq_true rfl⟩ (fun _ q => q.elim) (fun _ h => h) (fun _ _ _ h _ _ => h) dX1_digestWithHeading_79 ?_
  refine g_lstore S (lv' := [(5, .long (dgW (dgW (dgW (dgW (dgW (dgW d (((iI ((sp u).1)) : Int32).toInt64)) (((iI (smI (fun k => (sp u).2.2 k - (sp u).2.1 k + 1) ((sp u).1).toNat)) : Int32).toInt64)) (((iI (se u)) : Int32).toInt64)) (((iI ((pop (al u) 24 : Nat) : Int)) : Int32).toInt64)) (((iI (eS se n.toNat u)) : Int32).toInt64)) (((iI ((pop (itS se al n 24 (2 ^ u.toNat)) 24 : Nat) : Int)) : Int32).toInt64))), (4, .ref (ad (5 + 3 * u))), (0, .ref (ad 0)), (1, .long d), (3, .int (iI u))]) dX1_digestWithHeading_82 (Nat.le_of_ble_eq_true rfl) rfl ?_
  refine g_lload S dX1_digestWithHeading_84 0 rfl ?_
  refine g_aload_n S dX1_digestWithHeading_86 rfl 2 rfl ?_
  refine g_iload_n S dX1_digestWithHeading_87 rfl 4 rfl ?_
  refine g_callV S xK (As := [.int (iI u)]) (st := [.long (dgW (dgW (dgW (dgW (dgW (dgW d (((iI ((sp u).1)) : Int32).toInt64)) (((iI (smI (fun k => (sp u).2.2 k - (sp u).2.1 k + 1) ((sp u).1).toNat)) : Int32).toInt64)) (((iI (se u)) : Int32).toInt64)) (((iI ((pop (al u) 24 : Nat) : Int)) : Int32).toInt64)) (((iI (eS se n.toNat u)) : Int32).toInt64)) (((iI ((pop (itS se al n 24 (2 ^ u.toNat)) 24 : Nat) : Int)) : Int32).toInt64))]) (stk' := [.int (iI (pI ((itS se al n 24 (stS se al (2 ^ u.toNat) n.toNat)).testBit u.toNat = true))), .long (dgW (dgW (dgW (dgW (dgW (dgW d (((iI ((sp u).1)) : Int32).toInt64)) (((iI (smI (fun k => (sp u).2.2 k - (sp u).2.1 k + 1) ((sp u).1).toNat)) : Int32).toInt64)) (((iI (se u)) : Int32).toInt64)) (((iI ((pop (al u) 24 : Nat) : Int)) : Int32).toInt64)) (((iI (eS se n.toNat u)) : Int32).toInt64)) (((iI ((pop (itS se al n 24 (2 ^ u.toNat)) 24 : Nat) : Int)) : Int32).toInt64))]) (Wp' := CW E ad sp se al ta n pg) (r := (RX1, TX1, 9)) (m_X1_comesBack l E hj sp se al ta n pg u (by omega) hn hgr) (cwV 1 S.2.2.2.2 gX1_digestWithHeading_X1_comesBack rfl rfl rfl (by decide +kernel) ⟨Nat.le_of_ble_eq_true rfl, Nat.le_of_ble_eq_true rfl⟩) rfl rfl rfl rfl (Nat.le_of_ble_eq_true rfl) ⟨Nat.le_of_ble_eq_true rfl, Nat.le_of_ble_eq_true rfl⟩ (fun _ q => q.elim) (fun _ h => cw_x h) (fun _ h => h) (fun _ _ _ h _ _ => h) dX1_digestWithHeading_88 ?_
  have z91 := pI_b ((itS se al n 24 (stS se al (2 ^ u.toNat) n.toNat)).testBit u.toNat = true)
  refine g_if_eq S (tgt := 98) dX1_digestWithHeading_91 (by decide) (by omega) (fun c91 => ?_) (fun c91 => ?_)
  · skip
    refine g_lconst S dX1_digestWithHeading_98 rfl ?_
    refine g_lv [2, 4, 1] rfl ?_
    exact L99 0 (dgW (dgW (dgW (dgW (dgW (dgW d (((iI ((sp u).1)) : Int32).toInt64)) (((iI (smI (fun k => (sp u).2.2 k - (sp u).2.1 k + 1) ((sp u).1).toNat)) : Int32).toInt64)) (((iI (se u)) : Int32).toInt64)) (((iI ((pop (al u) 24 : Nat) : Int)) : Int32).toInt64)) (((iI (eS se n.toNat u)) : Int32).toInt64)) (((iI ((pop (itS se al n 24 (2 ^ u.toNat)) 24 : Nat) : Int)) : Int32).toInt64)) (by rw [pI_f (pI_eq0 c91)]; rfl) (rfl)
  · skip
    refine g_lconst S dX1_digestWithHeading_94 rfl ?_
    refine g_goto S (tgt := 99) dX1_digestWithHeading_95 (by decide) ?_
    refine g_lv [2, 4, 1] rfl ?_
    exact L99 1 (dgW (dgW (dgW (dgW (dgW (dgW d (((iI ((sp u).1)) : Int32).toInt64)) (((iI (smI (fun k => (sp u).2.2 k - (sp u).2.1 k + 1) ((sp u).1).toNat)) : Int32).toInt64)) (((iI (se u)) : Int32).toInt64)) (((iI ((pop (al u) 24 : Nat) : Int)) : Int32).toInt64)) (((iI (eS se n.toNat u)) : Int32).toInt64)) (((iI ((pop (itS se al n 24 (2 ^ u.toNat)) 24 : Nat) : Int)) : Int32).toInt64)) (by rw [pI_t (pI_ne0 c91)]; rfl) (rfl)
set_option maxHeartbeats 4000000 in
set_option maxRecDepth 100000 in
theorem m_X1_digest (l : Launch) (E : EN) {ad : Int → Nat} (hj : INJ ad) (sp : Int → SpT) (se : Int → Int) (al : Int → Nat) (ta : Int → Int) (n pg : Int) (hn : 0 ≤ n ∧ n ≤ 24) (hpg : 1 ≤ pg ∧ pg ≤ 300) (hsp : SPV sp n pg) (hgr : GR se al n) : Met l yX1_digest wsX1_digest ({ frames := 5, cells := 0, slots := 0, locals := 116 }) (CI E [.ref (ad 0)] (CW E ad sp se al ta n pg)) (QW (some (.long (dgA sp se al n (dgL 2113 (TLS sp se al n pg)) n.toNat))) (CT E ad sp se al n pg) (AX ad)) 0 0 (AX ad) := by
  refine g_met (cc := cX1_digest) (maxL := 4) (ret := (some .long)) (lv := [(0, .ref (ad 0))]) (by decide) rfl (Nat.le_of_ble_eq_true rfl) rfl ?_
  intro xp xe xs xm xa xb xh xc S xK xr xlk xin
  have kc179 := S.2.2.2.2 (.constantLong RX1 179 2113) (by decide +kernel)
  have kf36 := S.2.2.2.2 (.fieldLink RX1 36 "BookIndex" "headingCount" "I") (by decide +kernel)
  have hin1 : ∀ w ∈ wsX10, w ∈ wsX1_digest := by decide +kernel
  refine g_ldc2 S kc179 dX1_digest_0 ?_
  refine g_lstore_n S (lv' := [(1, .long 2113), (0, .ref (ad 0))]) dX1_digest_3 rfl (Nat.le_of_ble_eq_true rfl) rfl ?_
  refine g_lload_n S dX1_digest_4 rfl 0 rfl ?_
  refine g_aload_n S dX1_digest_5 rfl 1 rfl ?_
  refine g_callV S xK (As := []) (st := [.long 2113]) (stk' := [.int (iI pg), .long 2113]) (Wp' := CW E ad sp se al ta n pg) (r := (RX1, TX1, 9)) (m_X1_bookPages l E hj sp se al ta n pg  ) (cwV 0 S.2.2.2.2 gX1_digest_X1_bookPages rfl rfl rfl (by decide +kernel) ⟨Nat.le_of_ble_eq_true rfl, Nat.le_of_ble_eq_true rfl⟩) rfl rfl rfl rfl (Nat.le_of_ble_eq_true rfl) ⟨Nat.le_of_ble_eq_true rfl, Nat.le_of_ble_eq_true rfl⟩ (fun _ q => q.elim) (fun _ h => cw_x h) (fun _ h => h) (fun _ _ _ h _ _ => h) dX1_digest_6 ?_
  refine g_i2l S dX1_digest_9 ?_
  refine g_callS S xK (As := [.long 2113, .long (((iI pg) : Int32).toInt64)]) (st := []) (stk' := [.long (dgW 2113 (((iI pg) : Int32).toInt64))]) (Wp' := CW E ad sp se al ta n pg) (m_X1_digestWith l E (Wp := CW E ad sp se al ta n pg) 2113 (((iI pg) : Int32).toInt64)) (cwS 2 S.2.2.2.2 gX1_digest_X1_digestWith rfl rfl rfl (by decide +kernel) ⟨Nat.le_of_ble_eq_true rfl, Nat.le_of_ble_eq_true rfl⟩) rfl rfl rfl (Nat.le_of_ble_eq_true rfl) ⟨Nat.le_of_ble_eq_true rfl, Nat.le_of_ble_eq_true rfl⟩ (fun _ q => q.elim) (fun _ h => h) (fun _ _ _ h _ _ => h) dX1_digest_10 ?_
  refine g_lstore_n S (lv' := [(1, .long (dgW 2113 (((iI pg) : Int32).toInt64))), (0, .ref (ad 0))]) dX1_digest_13 rfl (Nat.le_of_ble_eq_true rfl) rfl ?_
  refine g_lload_n S dX1_digest_14 rfl 0 rfl ?_
  refine g_aload_n S dX1_digest_15 rfl 1 rfl ?_
  refine g_callV S xK (As := []) (st := [.long (dgW 2113 (((iI pg) : Int32).toInt64))]) (stk' := [.int (iI n), .long (dgW 2113 (((iI pg) : Int32).toInt64))]) (Wp' := CW E ad sp se al ta n pg) (r := (RX1, TX1, 9)) (m_X1_headings l E hj sp se al ta n pg  ) (cwV 0 S.2.2.2.2 gX1_digest_X1_headings rfl rfl rfl (by decide +kernel) ⟨Nat.le_of_ble_eq_true rfl, Nat.le_of_ble_eq_true rfl⟩) rfl rfl rfl rfl (Nat.le_of_ble_eq_true rfl) ⟨Nat.le_of_ble_eq_true rfl, Nat.le_of_ble_eq_true rfl⟩ (fun _ q => q.elim) (fun _ h => cw_x h) (fun _ h => h) (fun _ _ _ h _ _ => h) dX1_digest_16 ?_
  refine g_i2l S dX1_digest_19 ?_
  refine g_callS S xK (As := [.long (dgW 2113 (((iI pg) : Int32).toInt64)), .long (((iI n) : Int32).toInt64)]) (st := []) (stk' := [.long (dgW (dgW 2113 (((iI pg) : Int32).toInt64)) (((iI n) : Int32).toInt64))]) (Wp' := CW E ad sp se al ta n pg) (m_X1_digestWith l E (Wp := CW E ad sp se al ta n pg) (dgW 2113 (((iI pg) : Int32).toInt64)) (((iI n) : Int32).toInt64)) (cwS 2 S.2.2.2.2 gX1_digest_X1_digestWith rfl rfl rfl (by decide +kernel) ⟨Nat.le_of_ble_eq_true rfl, Nat.le_of_ble_eq_true rfl⟩) rfl rfl rfl (Nat.le_of_ble_eq_true rfl) ⟨Nat.le_of_ble_eq_true rfl, Nat.le_of_ble_eq_true rfl⟩ (fun _ q => q.elim) (fun _ h => h) (fun _ _ _ h _ _ => h) dX1_digest_20 ?_
  refine g_lstore_n S (lv' := [(1, .long (dgW (dgW 2113 (((iI pg) : Int32).toInt64)) (((iI n) : Int32).toInt64))), (0, .ref (ad 0))]) dX1_digest_23 rfl (Nat.le_of_ble_eq_true rfl) rfl ?_
  refine g_lload_n S dX1_digest_24 rfl 0 rfl ?_
  refine g_aload_n S dX1_digest_25 rfl 1 rfl ?_
  refine g_callV S xK (As := []) (st := [.long (dgW (dgW 2113 (((iI pg) : Int32).toInt64)) (((iI n) : Int32).toInt64))]) (stk' := [.int (iI (BARE sp n pg)), .long (dgW (dgW 2113 (((iI pg) : Int32).toInt64)) (((iI n) : Int32).toInt64))]) (Wp' := CT E ad sp se al n pg) (r := (RX1, TX1, 9)) (m_X1_barePages l E hj sp se al ta n pg hn hpg hsp) (cwV 0 S.2.2.2.2 gX1_digest_X1_barePages rfl rfl rfl (by decide +kernel) ⟨Nat.le_of_ble_eq_true rfl, Nat.le_of_ble_eq_true rfl⟩) rfl rfl rfl rfl (Nat.le_of_ble_eq_true rfl) ⟨Nat.le_of_ble_eq_true rfl, Nat.le_of_ble_eq_true rfl⟩ (fun _ q => q) (fun _ h => cw_x h) (fun _ h => h) (fun _ _ _ h _ _ => h) dX1_digest_26 ?_
  refine g_exU (fun t1 => ?_)
  refine g_i2l S dX1_digest_29 ?_
  refine g_callS S xK (As := [.long (dgW (dgW 2113 (((iI pg) : Int32).toInt64)) (((iI n) : Int32).toInt64)), .long (((iI (BARE sp n pg)) : Int32).toInt64)]) (st := []) (stk' := [.long (dgW (dgW (dgW 2113 (((iI pg) : Int32).toInt64)) (((iI n) : Int32).toInt64)) (((iI (BARE sp n pg)) : Int32).toInt64))]) (Wp' := CW E ad sp se al t1 n pg) (m_X1_digestWith l E (Wp := CW E ad sp se al t1 n pg) (dgW (dgW 2113 (((iI pg) : Int32).toInt64)) (((iI n) : Int32).toInt64)) (((iI (BARE sp n pg)) : Int32).toInt64)) (cwS 2 S.2.2.2.2 gX1_digest_X1_digestWith rfl rfl rfl (by decide +kernel) ⟨Nat.le_of_ble_eq_true rfl, Nat.le_of_ble_eq_true rfl⟩) rfl rfl rfl (Nat.le_of_ble_eq_true rfl) ⟨Nat.le_of_ble_eq_true rfl, Nat.le_of_ble_eq_true rfl⟩ (fun _ q => q.elim) (fun _ h => h) (fun _ _ _ h _ _ => h) dX1_digest_30 ?_
  refine g_lstore_n S (lv' := [(1, .long (dgW (dgW (dgW 2113 (((iI pg) : Int32).toInt64)) (((iI n) : Int32).toInt64)) (((iI (BARE sp n pg)) : Int32).toInt64))), (0, .ref (ad 0))]) dX1_digest_33 rfl (Nat.le_of_ble_eq_true rfl) rfl ?_
  refine g_lload_n S dX1_digest_34 rfl 0 rfl ?_
  refine g_aload_n S dX1_digest_35 rfl 1 rfl ?_
  refine g_callV S xK (As := []) (st := [.long (dgW (dgW (dgW 2113 (((iI pg) : Int32).toInt64)) (((iI n) : Int32).toInt64)) (((iI (BARE sp n pg)) : Int32).toInt64))]) (stk' := [.int (iI (FULL sp n pg)), .long (dgW (dgW (dgW 2113 (((iI pg) : Int32).toInt64)) (((iI n) : Int32).toInt64)) (((iI (BARE sp n pg)) : Int32).toInt64))]) (Wp' := CT E ad sp se al n pg) (r := (RX1, TX1, 9)) (m_X1_fullestPage l E hj sp se al t1 n pg hn hpg hsp) (cwV 0 S.2.2.2.2 gX1_digest_X1_fullestPage rfl rfl rfl (by decide +kernel) ⟨Nat.le_of_ble_eq_true rfl, Nat.le_of_ble_eq_true rfl⟩) rfl rfl rfl rfl (Nat.le_of_ble_eq_true rfl) ⟨Nat.le_of_ble_eq_true rfl, Nat.le_of_ble_eq_true rfl⟩ (fun _ q => q) (fun _ h => cw_x h) (fun _ h => h) (fun _ _ _ h _ _ => h) dX1_digest_36 ?_
  refine g_exU (fun t2 => ?_)
  refine g_i2l S dX1_digest_39 ?_
  refine g_callS S xK (As := [.long (dgW (dgW (dgW 2113 (((iI pg) : Int32).toInt64)) (((iI n) : Int32).toInt64)) (((iI (BARE sp n pg)) : Int32).toInt64)), .long (((iI (FULL sp n pg)) : Int32).toInt64)]) (st := []) (stk' := [.long (dgW (dgW (dgW (dgW 2113 (((iI pg) : Int32).toInt64)) (((iI n) : Int32).toInt64)) (((iI (BARE sp n pg)) : Int32).toInt64)) (((iI (FULL sp n pg)) : Int32).toInt64))]) (Wp' := CW E ad sp se al t2 n pg) (m_X1_digestWith l E (Wp := CW E ad sp se al t2 n pg) (dgW (dgW (dgW 2113 (((iI pg) : Int32).toInt64)) (((iI n) : Int32).toInt64)) (((iI (BARE sp n pg)) : Int32).toInt64)) (((iI (FULL sp n pg)) : Int32).toInt64)) (cwS 2 S.2.2.2.2 gX1_digest_X1_digestWith rfl rfl rfl (by decide +kernel) ⟨Nat.le_of_ble_eq_true rfl, Nat.le_of_ble_eq_true rfl⟩) rfl rfl rfl (Nat.le_of_ble_eq_true rfl) ⟨Nat.le_of_ble_eq_true rfl, Nat.le_of_ble_eq_true rfl⟩ (fun _ q => q.elim) (fun _ h => h) (fun _ _ _ h _ _ => h) dX1_digest_40 ?_
  refine g_lstore_n S (lv' := [(1, .long (dgW (dgW (dgW (dgW 2113 (((iI pg) : Int32).toInt64)) (((iI n) : Int32).toInt64)) (((iI (BARE sp n pg)) : Int32).toInt64)) (((iI (FULL sp n pg)) : Int32).toInt64))), (0, .ref (ad 0))]) dX1_digest_43 rfl (Nat.le_of_ble_eq_true rfl) rfl ?_
  refine g_lload_n S dX1_digest_44 rfl 0 rfl ?_
  refine g_aload_n S dX1_digest_45 rfl 1 rfl ?_
  refine g_callV S xK (As := []) (st := [.long (dgW (dgW (dgW (dgW 2113 (((iI pg) : Int32).toInt64)) (((iI n) : Int32).toInt64)) (((iI (BARE sp n pg)) : Int32).toInt64)) (((iI (FULL sp n pg)) : Int32).toInt64))]) (stk' := [.int (iI (VAIN sp se n)), .long (dgW (dgW (dgW (dgW 2113 (((iI pg) : Int32).toInt64)) (((iI n) : Int32).toInt64)) (((iI (BARE sp n pg)) : Int32).toInt64)) (((iI (FULL sp n pg)) : Int32).toInt64))]) (Wp' := CW E ad sp se al t2 n pg) (r := (RX1, TX1, 9)) (m_X1_vainSees l E hj sp se al t2 n pg  hn hsp hgr) (cwV 0 S.2.2.2.2 gX1_digest_X1_vainSees rfl rfl rfl (by decide +kernel) ⟨Nat.le_of_ble_eq_true rfl, Nat.le_of_ble_eq_true rfl⟩) rfl rfl rfl rfl (Nat.le_of_ble_eq_true rfl) ⟨Nat.le_of_ble_eq_true rfl, Nat.le_of_ble_eq_true rfl⟩ (fun _ q => q.elim) (fun _ h => cw_x h) (fun _ h => h) (fun _ _ _ h _ _ => h) dX1_digest_46 ?_
  refine g_i2l S dX1_digest_49 ?_
  refine g_callS S xK (As := [.long (dgW (dgW (dgW (dgW 2113 (((iI pg) : Int32).toInt64)) (((iI n) : Int32).toInt64)) (((iI (BARE sp n pg)) : Int32).toInt64)) (((iI (FULL sp n pg)) : Int32).toInt64)), .long (((iI (VAIN sp se n)) : Int32).toInt64)]) (st := []) (stk' := [.long (dgW (dgW (dgW (dgW (dgW 2113 (((iI pg) : Int32).toInt64)) (((iI n) : Int32).toInt64)) (((iI (BARE sp n pg)) : Int32).toInt64)) (((iI (FULL sp n pg)) : Int32).toInt64)) (((iI (VAIN sp se n)) : Int32).toInt64))]) (Wp' := CW E ad sp se al t2 n pg) (m_X1_digestWith l E (Wp := CW E ad sp se al t2 n pg) (dgW (dgW (dgW (dgW 2113 (((iI pg) : Int32).toInt64)) (((iI n) : Int32).toInt64)) (((iI (BARE sp n pg)) : Int32).toInt64)) (((iI (FULL sp n pg)) : Int32).toInt64)) (((iI (VAIN sp se n)) : Int32).toInt64)) (cwS 2 S.2.2.2.2 gX1_digest_X1_digestWith rfl rfl rfl (by decide +kernel) ⟨Nat.le_of_ble_eq_true rfl, Nat.le_of_ble_eq_true rfl⟩) rfl rfl rfl (Nat.le_of_ble_eq_true rfl) ⟨Nat.le_of_ble_eq_true rfl, Nat.le_of_ble_eq_true rfl⟩ (fun _ q => q.elim) (fun _ h => h) (fun _ _ _ h _ _ => h) dX1_digest_50 ?_
  refine g_lstore_n S (lv' := [(1, .long (dgW (dgW (dgW (dgW (dgW 2113 (((iI pg) : Int32).toInt64)) (((iI n) : Int32).toInt64)) (((iI (BARE sp n pg)) : Int32).toInt64)) (((iI (FULL sp n pg)) : Int32).toInt64)) (((iI (VAIN sp se n)) : Int32).toInt64))), (0, .ref (ad 0))]) dX1_digest_53 rfl (Nat.le_of_ble_eq_true rfl) rfl ?_
  refine g_lload_n S dX1_digest_54 rfl 0 rfl ?_
  refine g_aload_n S dX1_digest_55 rfl 1 rfl ?_
  refine g_callV S xK (As := []) (st := [.long (dgW (dgW (dgW (dgW (dgW 2113 (((iI pg) : Int32).toInt64)) (((iI n) : Int32).toInt64)) (((iI (BARE sp n pg)) : Int32).toInt64)) (((iI (FULL sp n pg)) : Int32).toInt64)) (((iI (VAIN sp se n)) : Int32).toInt64))]) (stk' := [.int (iI (UNL se al n)), .long (dgW (dgW (dgW (dgW (dgW 2113 (((iI pg) : Int32).toInt64)) (((iI n) : Int32).toInt64)) (((iI (BARE sp n pg)) : Int32).toInt64)) (((iI (FULL sp n pg)) : Int32).toInt64)) (((iI (VAIN sp se n)) : Int32).toInt64))]) (Wp' := CW E ad sp se al t2 n pg) (r := (RX1, TX1, 9)) (m_X1_unled l E hj sp se al t2 n pg  hn hgr) (cwV 0 S.2.2.2.2 gX1_digest_X1_unled rfl rfl rfl (by decide +kernel) ⟨Nat.le_of_ble_eq_true rfl, Nat.le_of_ble_eq_true rfl⟩) rfl rfl rfl rfl (Nat.le_of_ble_eq_true rfl) ⟨Nat.le_of_ble_eq_true rfl, Nat.le_of_ble_eq_true rfl⟩ (fun _ q => q.elim) (fun _ h => cw_x h) (fun _ h => h) (fun _ _ _ h _ _ => h) dX1_digest_56 ?_
  refine g_i2l S dX1_digest_59 ?_
  refine g_callS S xK (As := [.long (dgW (dgW (dgW (dgW (dgW 2113 (((iI pg) : Int32).toInt64)) (((iI n) : Int32).toInt64)) (((iI (BARE sp n pg)) : Int32).toInt64)) (((iI (FULL sp n pg)) : Int32).toInt64)) (((iI (VAIN sp se n)) : Int32).toInt64)), .long (((iI (UNL se al n)) : Int32).toInt64)]) (st := []) (stk' := [.long (dgW (dgW (dgW (dgW (dgW (dgW 2113 (((iI pg) : Int32).toInt64)) (((iI n) : Int32).toInt64)) (((iI (BARE sp n pg)) : Int32).toInt64)) (((iI (FULL sp n pg)) : Int32).toInt64)) (((iI (VAIN sp se n)) : Int32).toInt64)) (((iI (UNL se al n)) : Int32).toInt64))]) (Wp' := CW E ad sp se al t2 n pg) (m_X1_digestWith l E (Wp := CW E ad sp se al t2 n pg) (dgW (dgW (dgW (dgW (dgW 2113 (((iI pg) : Int32).toInt64)) (((iI n) : Int32).toInt64)) (((iI (BARE sp n pg)) : Int32).toInt64)) (((iI (FULL sp n pg)) : Int32).toInt64)) (((iI (VAIN sp se n)) : Int32).toInt64)) (((iI (UNL se al n)) : Int32).toInt64)) (cwS 2 S.2.2.2.2 gX1_digest_X1_digestWith rfl rfl rfl (by decide +kernel) ⟨Nat.le_of_ble_eq_true rfl, Nat.le_of_ble_eq_true rfl⟩) rfl rfl rfl (Nat.le_of_ble_eq_true rfl) ⟨Nat.le_of_ble_eq_true rfl, Nat.le_of_ble_eq_true rfl⟩ (fun _ q => q.elim) (fun _ h => h) (fun _ _ _ h _ _ => h) dX1_digest_60 ?_
  refine g_lstore_n S (lv' := [(1, .long (dgW (dgW (dgW (dgW (dgW (dgW 2113 (((iI pg) : Int32).toInt64)) (((iI n) : Int32).toInt64)) (((iI (BARE sp n pg)) : Int32).toInt64)) (((iI (FULL sp n pg)) : Int32).toInt64)) (((iI (VAIN sp se n)) : Int32).toInt64)) (((iI (UNL se al n)) : Int32).toInt64))), (0, .ref (ad 0))]) dX1_digest_63 rfl (Nat.le_of_ble_eq_true rfl) rfl ?_
  refine g_iconst S dX1_digest_64 ?_
  refine g_istore_n S (lv' := [(3, .int (iI 0)), (1, .long (dgW (dgW (dgW (dgW (dgW (dgW 2113 (((iI pg) : Int32).toInt64)) (((iI n) : Int32).toInt64)) (((iI (BARE sp n pg)) : Int32).toInt64)) (((iI (FULL sp n pg)) : Int32).toInt64)) (((iI (VAIN sp se n)) : Int32).toInt64)) (((iI (UNL se al n)) : Int32).toInt64))), (0, .ref (ad 0))]) dX1_digest_65 rfl (Nat.le_of_ble_eq_true rfl) rfl ?_
  have L66 : ∀ (nf : Nat) (o : Int) (dd : Int64), (0 ≤ o ∧ o ≤ n) → (dd = dgA sp se al n (dgL 2113 (TLS sp se al n pg)) o.toNat) → (n - o < (nf : Int)) → G xp l xe ({ frames := 5, cells := 0, slots := 0, locals := 116 }) xs xm xa xb xh xc 4 (AX ad) 0 0 (MQ xb (QW (some (.long (dgA sp se al n (dgL 2113 (TLS sp se al n pg)) n.toNat))) (CT E ad sp se al n pg) (AX ad)) xa xs 0 0 (AX ad)) 66 [(0, .ref (ad 0)), (1, .long dd), (3, .int (iI o))] [] (CW E ad sp se al t2 n pg) := by
    intro nf
    induction nf with
    | zero =>
      intro o dd ho hd hmf
      exfalso
      omega
    | succ nf ihL66 =>
      intro o dd ho hd hmf
      refine g_iload_n S dX1_digest_66 rfl 2 rfl ?_
      refine g_aload_n S dX1_digest_67 rfl 0 rfl ?_
      refine g_get S xK (ref := "BookIndex") hin1 7 (by decide) (show vwCl[1]? = some (RX1, TX1, 9) from rfl) kf36 (fun _ h9 => h9) (fun _ h => cw_x h) rfl dX1_digest_68 ?_
      refine g_icmp_ge S (tgt := 87) dX1_digest_71 (by decide) (by omega) (fun c71 => ?_) (fun c71 => ?_)
      · skip
        refine g_lload_n S dX1_digest_87 rfl 1 rfl ?_
        rw [show (dgA sp se al n (dgL 2113 (TLS sp se al n pg)) n.toNat) = dd from by rw [hd, show o = n by omega]]
        exact g_lret S xr xlk dX1_digest_88 (fun _ h => ⟨_, h⟩)
      · skip
        refine g_aload_n S dX1_digest_74 rfl 0 rfl ?_
        refine g_lload_n S dX1_digest_75 rfl 1 rfl ?_
        refine g_iload_n S dX1_digest_76 rfl 2 rfl ?_
        refine g_callV S xK (As := [.long dd, .int (iI o)]) (st := []) (stk' := [.long (dgS (sp o) (dgL dd (HL sp se al n o)) (sp o).1.toNat)]) (Wp' := CW E ad sp se al t2 n pg) (r := (RX1, TX1, 9)) (m_X1_digestWithHeading l E hj sp se al t2 n pg dd o (by omega) hn hpg hsp hgr) (cwV 2 S.2.2.2.2 gX1_digest_X1_digestWithHeading rfl rfl rfl (by decide +kernel) ⟨Nat.le_of_ble_eq_true rfl, Nat.le_of_ble_eq_true rfl⟩) rfl rfl rfl rfl (Nat.le_of_ble_eq_true rfl) ⟨Nat.le_of_ble_eq_true rfl, Nat.le_of_ble_eq_true rfl⟩ (fun _ q => q.elim) (fun _ h => cw_x h) (fun _ h => h) (fun _ _ _ h _ _ => h) dX1_digest_77 ?_
        refine g_lstore_n S (lv' := [(1, .long (dgS (sp o) (dgL dd (HL sp se al n o)) (sp o).1.toNat)), (0, .ref (ad 0)), (3, .int (iI o))]) dX1_digest_80 rfl (Nat.le_of_ble_eq_true rfl) rfl ?_
        refine g_iinc S (lv' := [(3, .int (iI (o + 1))), (1, .long (dgS (sp o) (dgL dd (HL sp se al n o)) (sp o).1.toNat)), (0, .ref (ad 0))]) dX1_digest_81 2 rfl (Nat.le_of_ble_eq_true rfl) rfl ?_
        refine g_goto S (tgt := 66) dX1_digest_84 (by decide) ?_
        refine g_lv [2, 1, 0] rfl ?_
        exact ihL66 (o + 1) (dgS (sp o) (dgL dd (HL sp se al n o)) (sp o).1.toNat) (by omega) (by rw [dgA_s _ _ _ _ _ ho.1, ← hd]) (by omega)
  refine g_lv [2, 1, 0] rfl ?_
  exact L66 ((n - 0) + 1).toNat 0 (dgW (dgW (dgW (dgW (dgW (dgW 2113 (((iI pg) : Int32).toInt64)) (((iI n) : Int32).toInt64)) (((iI (BARE sp n pg)) : Int32).toInt64)) (((iI (FULL sp n pg)) : Int32).toInt64)) (((iI (VAIN sp se n)) : Int32).toInt64)) (((iI (UNL se al n)) : Int32).toInt64)) (by omega) (rfl) (by omega)
