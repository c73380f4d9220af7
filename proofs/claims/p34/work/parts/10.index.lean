set_option maxHeartbeats 4000000 in
set_option maxRecDepth 100000 in
theorem m_X1_only (l : Launch) (E : EN) {Wp : Heap → Prop} (u : Int) (hh : 0 ≤ u ∧ u ≤ 23) : Met l yX1_only wsX1_only ({ frames := 0, cells := 0, slots := 0, locals := 0 }) (CI E [.int (iI u)] (Wp)) (QW (some (.int (iI ((2 ^ u.toNat : Nat) : Int)))) (Wp) (fun _ => False)) 0 0 (fun _ => False) := by
  refine g_met (cc := cX1_only) (maxL := 1) (ret := (some .int)) (lv := [(0, .int (iI u))]) (by decide) rfl (Nat.le_of_ble_eq_true rfl) rfl ?_
  intro xp xe xs xm xa xb xh xc S xK xr xlk xin
  refine g_iconst S dX1_only_0 ?_
  refine g_iload_n S dX1_only_1 rfl 0 rfl ?_
  refine g_ishl S (z := (iI ((2 ^ u.toNat : Nat) : Int))) dX1_only_2 (iI_shl1 (by omega)) ?_
  exact g_iret S xr xlk dX1_only_3 (fun _ h => h)
set_option maxHeartbeats 4000000 in
set_option maxRecDepth 100000 in
theorem m_X1_isHeading (l : Launch) (E : EN) {ad : Int → Nat} (hj : INJ ad) (sp : Int → SpT) (se : Int → Int) (al : Int → Nat) (ta : Int → Int) (n pg : Int) (u : Int) (hr : -2147483648 ≤ u ∧ u ≤ 2147483647) (hn : 0 ≤ n ∧ n ≤ 24) : Met l yX1_isHeading wsX1_isHeading ({ frames := 0, cells := 0, slots := 0, locals := 0 }) (CI E [.ref (ad 0), .int (iI u)] (CW E ad sp se al ta n pg)) (QW (some (.int (iI (pI (0 ≤ u ∧ u < n))))) (CW E ad sp se al ta n pg) (fun _ => False)) 0 0 (fun _ => False) := by
  refine g_met (cc := cX1_isHeading) (maxL := 2) (ret := (some .boolean)) (lv := [(0, .ref (ad 0)), (1, .int (iI u))]) (by decide) rfl (Nat.le_of_ble_eq_true rfl) rfl ?_
  intro xp xe xs xm xa xb xh xc S xK xr xlk xin
  have kf36 := S.2.2.2.2 (.fieldLink RX1 36 "BookIndex" "headingCount" "I") (by decide +kernel)
  have hin1 : ∀ w ∈ wsX10, w ∈ wsX1_isHeading := by decide +kernel
  refine g_iload_n S dX1_isHeading_0 rfl 1 rfl ?_
  refine g_if_lt S (tgt := 16) dX1_isHeading_1 (by decide) (by omega) (fun c1 => ?_) (fun c1 => ?_)
  · skip
    refine g_iconst S dX1_isHeading_16 ?_
    rw [pI_f (P := 0 ≤ u ∧ u < n) (fun z => by omega)]
    exact g_zret S xr xlk (Or.inl rfl) dX1_isHeading_17 (fun _ h => h)
  · skip
    refine g_iload_n S dX1_isHeading_4 rfl 1 rfl ?_
    refine g_aload_n S dX1_isHeading_5 rfl 0 rfl ?_
    refine g_get S xK (ref := "BookIndex") hin1 7 (by decide) (show vwCl[1]? = some (RX1, TX1, 9) from rfl) kf36 (fun _ h9 => h9) (fun _ h => cw_x h) rfl dX1_isHeading_6 ?_
    refine g_icmp_ge S (tgt := 16) dX1_isHeading_9 (by decide) (by omega) (fun c9 => ?_) (fun c9 => ?_)
    · skip
      refine g_iconst S dX1_isHeading_16 ?_
      rw [pI_f (P := 0 ≤ u ∧ u < n) (fun z => by omega)]
      exact g_zret S xr xlk (Or.inl rfl) dX1_isHeading_17 (fun _ h => h)
    · skip
      refine g_iconst S dX1_isHeading_12 ?_
      refine g_goto S (tgt := 17) dX1_isHeading_13 (by decide) ?_
      rw [pI_t (P := 0 ≤ u ∧ u < n) ⟨by omega, by omega⟩]
      exact g_zret S xr xlk (Or.inr rfl) dX1_isHeading_17 (fun _ h => h)
set_option maxHeartbeats 4000000 in
set_option maxRecDepth 100000 in
theorem m_X1_spansAt (l : Launch) (E : EN) {ad : Int → Nat} (hj : INJ ad) (sp : Int → SpT) (se : Int → Int) (al : Int → Nat) (ta : Int → Int) (n pg : Int) (u : Int) (hh : 0 ≤ u ∧ u < n) (hn : 0 ≤ n ∧ n ≤ 24) : Met l yX1_spansAt wsX1_spansAt ({ frames := 1, cells := 0, slots := 0, locals := 21 }) (CI E [.ref (ad 0), .int (iI u)] (CW E ad sp se al ta n pg)) (QW (some (.ref (ad (5 + 3 * u)))) (CW E ad sp se al ta n pg) (fun _ => False)) 0 0 (fun _ => False) := by
  refine g_met (cc := cX1_spansAt) (maxL := 3) (ret := (some (.object "BookIndex$Spans"))) (lv := [(0, .ref (ad 0)), (1, .int (iI u))]) (by decide) rfl (Nat.le_of_ble_eq_true rfl) rfl ?_
  intro xp xe xs xm xa xb xh xc S xK xr xlk xin
  have kf11 := S.2.2.2.2 (.fieldLink RX1 11 "BookIndex" "spansByHeading" "[LBookIndex$Spans;") (by decide +kernel)
  have hin1 : ∀ w ∈ wsX10, w ∈ wsX1_spansAt := by decide +kernel
  refine g_aload_n S dX1_spansAt_0 rfl 0 rfl ?_
  refine g_iload_n S dX1_spansAt_1 rfl 1 rfl ?_
  refine g_callV S xK (As := [.int (iI u)]) (st := []) (stk' := [.int (iI (pI (0 ≤ u ∧ u < n)))]) (Wp' := CW E ad sp se al ta n pg) (r := (RX1, TX1, 9)) (m_X1_isHeading l E hj sp se al ta n pg u (by omega) hn) (cwV 1 S.2.2.2.2 gX1_spansAt_X1_isHeading rfl rfl rfl (by decide +kernel) ⟨Nat.le_of_ble_eq_true rfl, Nat.le_of_ble_eq_true rfl⟩) rfl rfl rfl rfl (Nat.le_of_ble_eq_true rfl) ⟨Nat.le_of_ble_eq_true rfl, Nat.le_of_ble_eq_true rfl⟩ (fun _ q => q.elim) (fun _ h => cw_x h) (fun _ h => h) (fun _ _ _ h _ _ => h) dX1_spansAt_2 ?_
  have z5 := pI_b (0 ≤ u ∧ u < n)
  refine g_if_eq S (tgt := 17) dX1_spansAt_5 (by decide) (by omega) (fun c5 => ?_) (fun c5 => ?_)
  · skip
    exact absurd c5 (by rw [pI_t ⟨by omega, by omega⟩]; decide)
  · skip
    refine g_aload_n S dX1_spansAt_8 rfl 0 rfl ?_
    refine g_get S xK (ref := "BookIndex") hin1 0 (by decide) (show vwCl[1]? = some (RX1, TX1, 9) from rfl) kf11 (fun _ h9 => h9) (fun _ h => cw_x h) rfl dX1_spansAt_9 ?_
    refine g_iload_n S dX1_spansAt_12 rfl 1 rfl ?_
    refine g_aald S xK (n := 24) (fun _ h => cw_b h) (by omega) (by decide) dX1_spansAt_13 ?_
    refine g_goto S (tgt := 18) dX1_spansAt_14 (by decide) ?_
    refine g_astore_n S (lv' := [(2, .ref (ad (5 + 3 * u))), (0, .ref (ad 0)), (1, .int (iI u))]) dX1_spansAt_18 rfl (Nat.le_of_ble_eq_true rfl) rfl ?_
    refine g_aload_n S dX1_spansAt_19 rfl 0 rfl ?_
    refine g_ifnonnull S (tgt := 30) dX1_spansAt_20 (by decide) ?_
    refine g_aload_n S dX1_spansAt_30 rfl 0 rfl ?_
    exact g_aret S xr xlk dX1_spansAt_31 (fun _ h => h)
set_option maxHeartbeats 4000000 in
set_option maxRecDepth 100000 in
theorem m_X1_seeAt (l : Launch) (E : EN) {ad : Int → Nat} (hj : INJ ad) (sp : Int → SpT) (se : Int → Int) (al : Int → Nat) (ta : Int → Int) (n pg : Int) (u : Int) (hh : 0 ≤ u ∧ u < n) (hn : 0 ≤ n ∧ n ≤ 24) : Met l yX1_seeAt wsX1_seeAt ({ frames := 1, cells := 0, slots := 0, locals := 21 }) (CI E [.ref (ad 0), .int (iI u)] (CW E ad sp se al ta n pg)) (QW (some (.int (iI (se u)))) (CW E ad sp se al ta n pg) (fun _ => False)) 0 0 (fun _ => False) := by
  refine g_met (cc := cX1_seeAt) (maxL := 2) (ret := (some .int)) (lv := [(0, .ref (ad 0)), (1, .int (iI u))]) (by decide) rfl (Nat.le_of_ble_eq_true rfl) rfl ?_
  intro xp xe xs xm xa xb xh xc S xK xr xlk xin
  have kf16 := S.2.2.2.2 (.fieldLink RX1 16 "BookIndex" "sees" "[I") (by decide +kernel)
  have hin1 : ∀ w ∈ wsX10, w ∈ wsX1_seeAt := by decide +kernel
  refine g_aload_n S dX1_seeAt_0 rfl 0 rfl ?_
  refine g_iload_n S dX1_seeAt_1 rfl 1 rfl ?_
  refine g_callV S xK (As := [.int (iI u)]) (st := []) (stk' := [.int (iI (pI (0 ≤ u ∧ u < n)))]) (Wp' := CW E ad sp se al ta n pg) (r := (RX1, TX1, 9)) (m_X1_isHeading l E hj sp se al ta n pg u (by omega) hn) (cwV 1 S.2.2.2.2 gX1_seeAt_X1_isHeading rfl rfl rfl (by decide +kernel) ⟨Nat.le_of_ble_eq_true rfl, Nat.le_of_ble_eq_true rfl⟩) rfl rfl rfl rfl (Nat.le_of_ble_eq_true rfl) ⟨Nat.le_of_ble_eq_true rfl, Nat.le_of_ble_eq_true rfl⟩ (fun _ q => q.elim) (fun _ h => cw_x h) (fun _ h => h) (fun _ _ _ h _ _ => h) dX1_seeAt_2 ?_
  have z5 := pI_b (0 ≤ u ∧ u < n)
  refine g_if_eq S (tgt := 17) dX1_seeAt_5 (by decide) (by omega) (fun c5 => ?_) (fun c5 => ?_)
  · skip
    exact absurd c5 (by rw [pI_t ⟨by omega, by omega⟩]; decide)
  · skip
    refine g_aload_n S dX1_seeAt_8 rfl 0 rfl ?_
    refine g_get S xK (ref := "BookIndex") hin1 1 (by decide) (show vwCl[1]? = some (RX1, TX1, 9) from rfl) kf16 (fun _ h9 => h9) (fun _ h => cw_x h) rfl dX1_seeAt_9 ?_
    refine g_iload_n S dX1_seeAt_12 rfl 1 rfl ?_
    refine g_iald S xK (n := 24) (fun _ h => cw_se h) (by omega) (by decide) dX1_seeAt_13 ?_
    refine g_goto S (tgt := 18) dX1_seeAt_14 (by decide) ?_
    exact g_iret S xr xlk dX1_seeAt_18 (fun _ h => h)
set_option maxHeartbeats 4000000 in
set_option maxRecDepth 100000 in
theorem m_X1_countSeeAlsos (l : Launch) (E : EN) {ad : Int → Nat} (hj : INJ ad) (sp : Int → SpT) (se : Int → Int) (al : Int → Nat) (ta : Int → Int) (n pg : Int) (u : Int) (hh : 0 ≤ u ∧ u < n) (hn : 0 ≤ n ∧ n ≤ 24) (hgr : GR se al n) : Met l yX1_countSeeAlsos wsX1_countSeeAlsos ({ frames := 1, cells := 0, slots := 0, locals := 21 }) (CI E [.ref (ad 0), .int (iI u)] (CW E ad sp se al ta n pg)) (QW (some (.int (iI ((pop (al u) 24 : Nat) : Int)))) (CW E ad sp se al ta n pg) (fun _ => False)) 0 0 (fun _ => False) := by
  refine g_met (cc := cX1_countSeeAlsos) (maxL := 2) (ret := (some .int)) (lv := [(0, .ref (ad 0)), (1, .int (iI u))]) (by decide) rfl (Nat.le_of_ble_eq_true rfl) rfl ?_
  intro xp xe xs xm xa xb xh xc S xK xr xlk xin
  have kf20 := S.2.2.2.2 (.fieldLink RX1 20 "BookIndex" "seeAlsos" "[I") (by decide +kernel)
  have hin1 : ∀ w ∈ wsX10, w ∈ wsX1_countSeeAlsos := by decide +kernel
  refine g_aload_n S dX1_countSeeAlsos_0 rfl 0 rfl ?_
  refine g_iload_n S dX1_countSeeAlsos_1 rfl 1 rfl ?_
  refine g_callV S xK (As := [.int (iI u)]) (st := []) (stk' := [.int (iI (pI (0 ≤ u ∧ u < n)))]) (Wp' := CW E ad sp se al ta n pg) (r := (RX1, TX1, 9)) (m_X1_isHeading l E hj sp se al ta n pg u (by omega) hn) (cwV 1 S.2.2.2.2 gX1_countSeeAlsos_X1_isHeading rfl rfl rfl (by decide +kernel) ⟨Nat.le_of_ble_eq_true rfl, Nat.le_of_ble_eq_true rfl⟩) rfl rfl rfl rfl (Nat.le_of_ble_eq_true rfl) ⟨Nat.le_of_ble_eq_true rfl, Nat.le_of_ble_eq_true rfl⟩ (fun _ q => q.elim) (fun _ h => cw_x h) (fun _ h => h) (fun _ _ _ h _ _ => h) dX1_countSeeAlsos_2 ?_
  have z5 := pI_b (0 ≤ u ∧ u < n)
  refine g_if_eq S (tgt := 20) dX1_countSeeAlsos_5 (by decide) (by omega) (fun c5 => ?_) (fun c5 => ?_)
  · skip
    exact absurd c5 (by rw [pI_t ⟨by omega, by omega⟩]; decide)
  · skip
    refine g_aload_n S dX1_countSeeAlsos_8 rfl 0 rfl ?_
    refine g_get S xK (ref := "BookIndex") hin1 2 (by decide) (show vwCl[1]? = some (RX1, TX1, 9) from rfl) kf20 (fun _ h9 => h9) (fun _ h => cw_x h) rfl dX1_countSeeAlsos_9 ?_
    refine g_iload_n S dX1_countSeeAlsos_12 rfl 1 rfl ?_
    refine g_iald S xK (n := 24) (fun _ h => cw_al h) (by omega) (by decide) dX1_countSeeAlsos_13 ?_
    refine g_callS S xK (As := [.int (iI ((al u : Nat) : Int))]) (st := []) (stk' := [.int (iI ((pop (al u) 24 : Nat) : Int))]) (Wp' := CW E ad sp se al ta n pg) (m_J6_bitCount_0f7a4 l E (CW E ad sp se al ta n pg) (al u) (lt24 hn (hgr.2 u (by omega) (by omega)))) (va_cwS 1 S.2.2.2.2 gX1_countSeeAlsos_J6_bitCount_0f7a4 rfl rfl rfl (by decide +kernel) ⟨Nat.le_of_ble_eq_true rfl, Nat.le_of_ble_eq_true rfl⟩) rfl rfl rfl (Nat.le_of_ble_eq_true rfl) ⟨Nat.le_of_ble_eq_true rfl, Nat.le_of_ble_eq_true rfl⟩ (fun _ q => q.elim) (fun _ h => h) (fun _ _ _ h _ _ => h) dX1_countSeeAlsos_14 ?_
    refine g_goto S (tgt := 21) dX1_countSeeAlsos_17 (by decide) ?_
    exact g_iret S xr xlk dX1_countSeeAlsos_21 (fun _ h => h)
set_option maxHeartbeats 4000000 in
set_option maxRecDepth 100000 in
theorem m_X1_countHeadingsOn (l : Launch) (E : EN) {ad : Int → Nat} (hj : INJ ad) (sp : Int → SpT) (se : Int → Int) (al : Int → Nat) (ta : Int → Int) (n pg : Int) (q : Int) (hq : -2147483648 ≤ q ∧ q ≤ 2147483647) (hn : 0 ≤ n ∧ n ≤ 24) (hpg : 1 ≤ pg ∧ pg ≤ 300) (hsp : SPV sp n pg) : Met l yX1_countHeadingsOn wsX1_countHeadingsOn ({ frames := 2, cells := 0, slots := 0, locals := 43 }) (CI E [.ref (ad 0), .int (iI q)] (CW E ad sp se al ta n pg)) (QW (some (.int (iI (smI (fun i => pI (cov (sp i) q)) n.toNat)))) (CW E ad sp se al ta n pg) (fun _ => False)) 0 0 (fun _ => False) := by
  refine g_met (cc := cX1_countHeadingsOn) (maxL := 4) (ret := (some .int)) (lv := [(0, .ref (ad 0)), (1, .int (iI q))]) (by decide) rfl (Nat.le_of_ble_eq_true rfl) rfl ?_
  intro xp xe xs xm xa xb xh xc S xK xr xlk xin
  have kf36 := S.2.2.2.2 (.fieldLink RX1 36 "BookIndex" "headingCount" "I") (by decide +kernel)
  have hin1 : ∀ w ∈ wsX10, w ∈ wsX1_countHeadingsOn := by decide +kernel
  have L4 : ∀ (nf : Nat) (o : Int) (t : Int), (0 ≤ o ∧ o ≤ n) → (t = smI (fun i => pI (cov (sp i) q)) o.toNat) → (n - o < (nf : Int)) → G xp l xe ({ frames := 2, cells := 0, slots := 0, locals := 43 }) xs xm xa xb xh xc 4 (fun _ => False) 0 0 (MQ xb (QW (some (.int (iI (smI (fun i => pI (cov (sp i) q)) n.toNat)))) (CW E ad sp se al ta n pg) (fun _ => False)) xa xs 0 0 (fun _ => False)) 4 [(0, .ref (ad 0)), (1, .int (iI q)), (2, .int (iI t)), (3, .int (iI o))] [] (CW E ad sp se al ta n pg) := by
    intro nf
    induction nf with
    | zero =>
      intro o t ho ht hmf
      exfalso
      omega
    | succ nf ihL4 =>
      intro o t ho ht hmf
      refine g_iload_n S dX1_countHeadingsOn_4 rfl 3 rfl ?_
      refine g_aload_n S dX1_countHeadingsOn_5 rfl 0 rfl ?_
      refine g_get S xK (ref := "BookIndex") hin1 7 (by decide) (show vwCl[1]? = some (RX1, TX1, 9) from rfl) kf36 (fun _ h9 => h9) (fun _ h => cw_x h) rfl dX1_countHeadingsOn_6 ?_
      refine g_icmp_ge S (tgt := 33) dX1_countHeadingsOn_9 (by decide) (by omega) (fun c9 => ?_) (fun c9 => ?_)
      · skip
        refine g_iload_n S dX1_countHeadingsOn_33 rfl 2 rfl ?_
        rw [show (smI (fun i => pI (cov (sp i) q)) n.toNat) = t from by rw [show n.toNat = o.toNat by omega, ht]]
        exact g_iret S xr xlk dX1_countHeadingsOn_34 (fun _ h => h)
      · skip
        refine g_aload_n S dX1_countHeadingsOn_12 rfl 0 rfl ?_
        refine g_iload_n S dX1_countHeadingsOn_13 rfl 3 rfl ?_
        refine g_callV S xK (As := [.int (iI o)]) (st := []) (stk' := [.ref (ad (5 + 3 * o))]) (Wp' := CW E ad sp se al ta n pg) (r := (RX1, TX1, 9)) (m_X1_spansAt l E hj sp se al ta n pg o (by omega) hn) (cwV 1 S.2.2.2.2 gX1_countHeadingsOn_X1_spansAt rfl rfl rfl (by decide +kernel) ⟨Nat.le_of_ble_eq_true rfl, Nat.le_of_ble_eq_true rfl⟩) rfl rfl rfl rfl (Nat.le_of_ble_eq_true rfl) ⟨Nat.le_of_ble_eq_true rfl, Nat.le_of_ble_eq_true rfl⟩ (fun _ q => q.elim) (fun _ h => cw_x h) (fun _ h => h) (fun _ _ _ h _ _ => h) dX1_countHeadingsOn_14 ?_
        refine g_iload_n S dX1_countHeadingsOn_17 rfl 1 rfl ?_
        refine g_callV S xK (As := [.int (iI q)]) (st := []) (stk' := [.int (iI (pI (cov (sp o) q)))]) (Wp' := CW E ad sp se al ta n pg) (r := (RX0, TX0, 3)) (m_X0_has l E hj sp se al ta n pg o (by omega) (sp o) (rfl) q (vl_wb (by omega) (hsp o (by omega) (by omega)).1) (by omega)) (cwV 1 S.2.2.2.2 gX1_countHeadingsOn_X0_has rfl rfl rfl (by decide +kernel) ⟨Nat.le_of_ble_eq_true rfl, Nat.le_of_ble_eq_true rfl⟩) rfl rfl rfl rfl (Nat.le_of_ble_eq_true rfl) ⟨Nat.le_of_ble_eq_true rfl, Nat.le_of_ble_eq_true rfl⟩ (fun _ q => q.elim) (fun _ h => cw_o (i := o) h (by omega) (rfl)) (fun _ h => h) (fun _ _ _ h _ _ => h) dX1_countHeadingsOn_18 ?_
        have z21 := pI_b (cov (sp o) q)
        refine g_if_eq S (tgt := 27) dX1_countHeadingsOn_21 (by decide) (by omega) (fun c21 => ?_) (fun c21 => ?_)
        · skip
          refine g_iinc S (lv' := [(3, .int (iI (o + 1))), (0, .ref (ad 0)), (1, .int (iI q)), (2, .int (iI t))]) dX1_countHeadingsOn_27 3 rfl (Nat.le_of_ble_eq_true rfl) rfl ?_
          refine g_goto S (tgt := 4) dX1_countHeadingsOn_30 (by decide) ?_
          refine g_lv [1, 2, 3, 0] rfl ?_
          exact ihL4 (o + 1) t (by omega) (by rw [smI_s _ ho.1, ← ht, c21]; omega) (by omega)
        · skip
          refine g_iinc S (lv' := [(2, .int (iI (t + 1))), (0, .ref (ad 0)), (1, .int (iI q)), (3, .int (iI o))]) dX1_countHeadingsOn_24 2 rfl (Nat.le_of_ble_eq_true rfl) rfl ?_
          refine g_iinc S (lv' := [(3, .int (iI (o + 1))), (2, .int (iI (t + 1))), (0, .ref (ad 0)), (1, .int (iI q))]) dX1_countHeadingsOn_27 3 rfl (Nat.le_of_ble_eq_true rfl) rfl ?_
          refine g_goto S (tgt := 4) dX1_countHeadingsOn_30 (by decide) ?_
          refine g_lv [2, 3, 1, 0] rfl ?_
          exact ihL4 (o + 1) (t + 1) (by omega) (by rw [smI_s _ ho.1, ← ht, pI_t (pI_ne0 c21)]) (by omega)
  refine g_iconst S dX1_countHeadingsOn_0 ?_
  refine g_istore_n S (lv' := [(2, .int (iI 0)), (0, .ref (ad 0)), (1, .int (iI q))]) dX1_countHeadingsOn_1 rfl (Nat.le_of_ble_eq_true rfl) rfl ?_
  refine g_iconst S dX1_countHeadingsOn_2 ?_
  refine g_istore_n S (lv' := [(3, .int (iI 0)), (2, .int (iI 0)), (0, .ref (ad 0)), (1, .int (iI q))]) dX1_countHeadingsOn_3 rfl (Nat.le_of_ble_eq_true rfl) rfl ?_
  refine g_lv [2, 3, 1, 0] rfl ?_
  exact L4 ((n - 0) + 1).toNat 0 0 (by omega) (rfl) (by omega)
set_option maxHeartbeats 4000000 in
set_option maxRecDepth 100000 in
theorem m_X1_nearestOther (l : Launch) (E : EN) {ad : Int → Nat} (hj : INJ ad) (sp : Int → SpT) (se : Int → Int) (al : Int → Nat) (ta : Int → Int) (n pg : Int) (u : Int) (hh : 0 ≤ u ∧ u < n) (hn : 0 ≤ n ∧ n ≤ 24) (hpg : 1 ≤ pg ∧ pg ≤ 300) (hsp : SPV sp n pg) : Met l yX1_nearestOther wsX1_nearestOther ({ frames := 2, cells := 0, slots := 0, locals := 43 }) (CI E [.ref (ad 0), .int (iI u)] (CW E ad sp se al ta n pg)) (QW (some (.int (iI ((nrS (fun o => if o = u then 0 else pic (sp u) (sp o) ((sp u).1 + (sp o).1).toNat 0 0 0) n.toNat).1)))) (CW E ad sp se al ta n pg) (fun _ => False)) 0 0 (fun _ => False) := by
  refine g_met (cc := cX1_nearestOther) (maxL := 6) (ret := (some .int)) (lv := [(0, .ref (ad 0)), (1, .int (iI u))]) (by decide) rfl (Nat.le_of_ble_eq_true rfl) rfl ?_
  intro xp xe xs xm xa xb xh xc S xK xr xlk xin
  have kf36 := S.2.2.2.2 (.fieldLink RX1 36 "BookIndex" "headingCount" "I") (by decide +kernel)
  have hin1 : ∀ w ∈ wsX10, w ∈ wsX1_nearestOther := by decide +kernel
  have L7 : ∀ (nf : Nat) (o : Int) (bst : Int) (mst : Int), (0 ≤ o ∧ o ≤ n) → (nrS (fun o => if o = u then 0 else pic (sp u) (sp o) ((sp u).1 + (sp o).1).toNat 0 0 0) o.toNat = (bst, mst)) → (0 ≤ mst ∧ mst ≤ 10000000) → (n - o < (nf : Int)) → G xp l xe ({ frames := 2, cells := 0, slots := 0, locals := 43 }) xs xm xa xb xh xc 6 (fun _ => False) 0 0 (MQ xb (QW (some (.int (iI ((nrS (fun o => if o = u then 0 else pic (sp u) (sp o) ((sp u).1 + (sp o).1).toNat 0 0 0) n.toNat).1)))) (CW E ad sp se al ta n pg) (fun _ => False)) xa xs 0 0 (fun _ => False)) 7 [(0, .ref (ad 0)), (1, .int (iI u)), (2, .int (iI bst)), (3, .int (iI mst)), (4, .int (iI o))] [] (CW E ad sp se al ta n pg) := by
    intro nf
    induction nf with
    | zero =>
      intro o bst mst ho hm hmb hmf
      exfalso
      omega
    | succ nf ihL7 =>
      intro o bst mst ho hm hmb hmf
      refine g_iload S dX1_nearestOther_7 4 rfl ?_
      refine g_aload_n S dX1_nearestOther_9 rfl 0 rfl ?_
      refine g_get S xK (ref := "BookIndex") hin1 7 (by decide) (show vwCl[1]? = some (RX1, TX1, 9) from rfl) kf36 (fun _ h9 => h9) (fun _ h => cw_x h) rfl dX1_nearestOther_10 ?_
      refine g_icmp_ge S (tgt := 60) dX1_nearestOther_13 (by decide) (by omega) (fun c13 => ?_) (fun c13 => ?_)
      · skip
        refine g_iload_n S dX1_nearestOther_60 rfl 2 rfl ?_
        rw [show ((nrS (fun o => if o = u then 0 else pic (sp u) (sp o) ((sp u).1 + (sp o).1).toNat 0 0 0) n.toNat).1) = bst from by rw [show n.toNat = o.toNat by omega, hm]]
        exact g_iret S xr xlk dX1_nearestOther_61 (fun _ h => h)
      · skip
        have L40 : ∀ (v : Int), (v = (if o = u then 0 else pic (sp u) (sp o) ((sp u).1 + (sp o).1).toNat 0 0 0)) → (0 ≤ v ∧ v ≤ 10000000) → G xp l xe ({ frames := 2, cells := 0, slots := 0, locals := 43 }) xs xm xa xb xh xc 6 (fun _ => False) 0 0 (MQ xb (QW (some (.int (iI ((nrS (fun o => if o = u then 0 else pic (sp u) (sp o) ((sp u).1 + (sp o).1).toNat 0 0 0) n.toNat).1)))) (CW E ad sp se al ta n pg) (fun _ => False)) xa xs 0 0 (fun _ => False)) 40 [(0, .ref (ad 0)), (1, .int (iI u)), (2, .int (iI bst)), (3, .int (iI mst)), (4, .int (iI o))] [.int (iI v)] (CW E ad sp se al ta n pg) := by
          intro v hv hvb
          refine g_istore S (lv' := [(5, .int (iI v)), (0, .ref (ad 0)), (1, .int (iI u)), (2, .int (iI bst)), (3, .int (iI mst)), (4, .int (iI o))]) dX1_nearestOther_40 (Nat.le_of_ble_eq_true rfl) rfl ?_
          refine g_iload S dX1_nearestOther_42 0 rfl ?_
          refine g_iload_n S dX1_nearestOther_44 rfl 4 rfl ?_
          refine g_icmp_le S (tgt := 54) dX1_nearestOther_45 (by decide) (by omega) (fun c45 => ?_) (fun c45 => ?_)
          · skip
            refine g_iinc S (lv' := [(4, .int (iI (o + 1))), (5, .int (iI v)), (0, .ref (ad 0)), (1, .int (iI u)), (2, .int (iI bst)), (3, .int (iI mst))]) dX1_nearestOther_54 5 rfl (Nat.le_of_ble_eq_true rfl) rfl ?_
            refine g_goto S (tgt := 7) dX1_nearestOther_57 (by decide) ?_
            refine g_lv [2, 3, 4, 5, 0] rfl ?_
            exact ihL7 (o + 1) bst mst (by omega) (nrS_n (c := fun o => if o = u then 0 else pic (sp u) (sp o) ((sp u).1 + (sp o).1).toNat 0 0 0) ho.1 hm (by rw [← hv]; exact c45)) (by omega) (by omega)
          · skip
            refine g_iload S dX1_nearestOther_48 5 rfl ?_
            refine g_istore_n S (lv' := [(2, .int (iI o)), (5, .int (iI v)), (0, .ref (ad 0)), (1, .int (iI u)), (3, .int (iI mst)), (4, .int (iI o))]) dX1_nearestOther_50 rfl (Nat.le_of_ble_eq_true rfl) rfl ?_
            refine g_iload S dX1_nearestOther_51 1 rfl ?_
            refine g_istore_n S (lv' := [(3, .int (iI v)), (2, .int (iI o)), (5, .int (iI v)), (0, .ref (ad 0)), (1, .int (iI u)), (4, .int (iI o))]) dX1_nearestOther_53 rfl (Nat.le_of_ble_eq_true rfl) rfl ?_
            refine g_iinc S (lv' := [(4, .int (iI (o + 1))), (3, .int (iI v)), (2, .int (iI o)), (5, .int (iI v)), (0, .ref (ad 0)), (1, .int (iI u))]) dX1_nearestOther_54 5 rfl (Nat.le_of_ble_eq_true rfl) rfl ?_
            refine g_goto S (tgt := 7) dX1_nearestOther_57 (by decide) ?_
            refine g_lv [4, 5, 2, 1, 0] rfl ?_
            exact ihL7 (o + 1) o v (by omega) (by have z := nrS_y (c := fun o => if o = u then 0 else pic (sp u) (sp o) ((sp u).1 + (sp o).1).toNat 0 0 0) ho.1 hm (by rw [← hv]; exact c45); rw [← hv] at z; exact z) (by omega) (by omega)
        refine g_iload S dX1_nearestOther_16 4 rfl ?_
        refine g_iload_n S dX1_nearestOther_18 rfl 1 rfl ?_
        refine g_icmp_ne S (tgt := 26) dX1_nearestOther_19 (by decide) (by omega) (fun c19 => ?_) (fun c19 => ?_)
        · skip
          refine g_aload_n S dX1_nearestOther_26 rfl 0 rfl ?_
          refine g_iload_n S dX1_nearestOther_27 rfl 1 rfl ?_
          refine g_callV S xK (As := [.int (iI u)]) (st := []) (stk' := [.ref (ad (5 + 3 * u))]) (Wp' := CW E ad sp se al ta n pg) (r := (RX1, TX1, 9)) (m_X1_spansAt l E hj sp se al ta n pg u (by omega) hn) (cwV 1 S.2.2.2.2 gX1_nearestOther_X1_spansAt rfl rfl rfl (by decide +kernel) ⟨Nat.le_of_ble_eq_true rfl, Nat.le_of_ble_eq_true rfl⟩) rfl rfl rfl rfl (Nat.le_of_ble_eq_true rfl) ⟨Nat.le_of_ble_eq_true rfl, Nat.le_of_ble_eq_true rfl⟩ (fun _ q => q.elim) (fun _ h => cw_x h) (fun _ h => h) (fun _ _ _ h _ _ => h) dX1_nearestOther_28 ?_
          refine g_aload_n S dX1_nearestOther_31 rfl 0 rfl ?_
          refine g_iload S dX1_nearestOther_32 4 rfl ?_
          refine g_callV S xK (As := [.int (iI o)]) (st := [.ref (ad (5 + 3 * u))]) (stk' := [.ref (ad (5 + 3 * o)), .ref (ad (5 + 3 * u))]) (Wp' := CW E ad sp se al ta n pg) (r := (RX1, TX1, 9)) (m_X1_spansAt l E hj sp se al ta n pg o (by omega) hn) (cwV 1 S.2.2.2.2 gX1_nearestOther_X1_spansAt rfl rfl rfl (by decide +kernel) ⟨Nat.le_of_ble_eq_true rfl, Nat.le_of_ble_eq_true rfl⟩) rfl rfl rfl rfl (Nat.le_of_ble_eq_true rfl) ⟨Nat.le_of_ble_eq_true rfl, Nat.le_of_ble_eq_true rfl⟩ (fun _ q => q.elim) (fun _ h => cw_x h) (fun _ h => h) (fun _ _ _ h _ _ => h) dX1_nearestOther_34 ?_
          refine g_callV S xK (As := [.ref (ad (5 + 3 * o))]) (st := []) (stk' := [.int (iI (pic (sp u) (sp o) ((sp u).1 + (sp o).1).toNat 0 0 0))]) (Wp' := CW E ad sp se al ta n pg) (r := (RX0, TX0, 3)) (m_X0_pagesInCommon l E hj sp se al ta n pg u (by omega) (sp u) (rfl) o (by omega) (sp o) (rfl) (vl_wb (by omega) (hsp u (by omega) (by omega)).1) (vl_wb (by omega) (hsp o (by omega) (by omega)).1)) (cwV 1 S.2.2.2.2 gX1_nearestOther_X0_pagesInCommon rfl rfl rfl (by decide +kernel) ⟨Nat.le_of_ble_eq_true rfl, Nat.le_of_ble_eq_true rfl⟩) rfl rfl rfl rfl (Nat.le_of_ble_eq_true rfl) ⟨Nat.le_of_ble_eq_true rfl, Nat.le_of_ble_eq_true rfl⟩ (fun _ q => q.elim) (fun _ h => cw_o (i := u) h (by omega) (rfl)) (fun _ h => h) (fun _ _ _ h _ _ => h) dX1_nearestOther_37 ?_
          exact L40 (pic (sp u) (sp o) ((sp u).1 + (sp o).1).toNat 0 0 0) ((if_neg c19).symm) (by have z := pic_bd (vl_wb (by omega) (hsp u (by omega) (by omega)).1) (vl_wb (by omega) (hsp o (by omega) (by omega)).1) ((sp u).1 + (sp o).1).toNat 0 0 0 (by omega) (by omega); have z1 := (hsp u (by omega) (by omega)).2; have z2 := (hsp o (by omega) (by omega)).2; omega)
        · skip
          refine g_iconst S dX1_nearestOther_22 ?_
          refine g_goto S (tgt := 40) dX1_nearestOther_23 (by decide) ?_
          exact L40 0 ((if_pos c19).symm) (by omega)
  refine g_iconst S dX1_nearestOther_0 ?_
  refine g_istore_n S (lv' := [(2, .int (iI (-1))), (0, .ref (ad 0)), (1, .int (iI u))]) dX1_nearestOther_1 rfl (Nat.le_of_ble_eq_true rfl) rfl ?_
  refine g_iconst S dX1_nearestOther_2 ?_
  refine g_istore_n S (lv' := [(3, .int (iI 0)), (2, .int (iI (-1))), (0, .ref (ad 0)), (1, .int (iI u))]) dX1_nearestOther_3 rfl (Nat.le_of_ble_eq_true rfl) rfl ?_
  refine g_iconst S dX1_nearestOther_4 ?_
  refine g_istore S (lv' := [(4, .int (iI 0)), (3, .int (iI 0)), (2, .int (iI (-1))), (0, .ref (ad 0)), (1, .int (iI u))]) dX1_nearestOther_5 (Nat.le_of_ble_eq_true rfl) rfl ?_
  refine g_lv [3, 4, 2, 1, 0] rfl ?_
  exact L7 ((n - 0) + 1).toNat 0 (-1) 0 (by omega) (rfl) (by omega) (by omega)
set_option maxHeartbeats 4000000 in
set_option maxRecDepth 100000 in
theorem m_X1_endOfSees (l : Launch) (E : EN) {ad : Int → Nat} (hj : INJ ad) (sp : Int → SpT) (se : Int → Int) (al : Int → Nat) (ta : Int → Int) (n pg : Int) (u : Int) (hh : 0 ≤ u ∧ u < n) (hn : 0 ≤ n ∧ n ≤ 24) (hgr : GR se al n) : Met l yX1_endOfSees wsX1_endOfSees ({ frames := 2, cells := 0, slots := 0, locals := 42 }) (CI E [.ref (ad 0), .int (iI u)] (CW E ad sp se al ta n pg)) (QW (some (.int (iI (eS se n.toNat u)))) (CW E ad sp se al ta n pg) (fun _ => False)) 0 0 (fun _ => False) := by
  refine g_met (cc := cX1_endOfSees) (maxL := 5) (ret := (some .int)) (lv := [(0, .ref (ad 0)), (1, .int (iI u))]) (by decide) rfl (Nat.le_of_ble_eq_true rfl) rfl ?_
  intro xp xe xs xm xa xb xh xc S xK xr xlk xin
  have kf36 := S.2.2.2.2 (.fieldLink RX1 36 "BookIndex" "headingCount" "I") (by decide +kernel)
  have hin1 : ∀ w ∈ wsX10, w ∈ wsX1_endOfSees := by decide +kernel
  have L4 : ∀ (nf : Nat) (y : Int) (k : Int), (0 ≤ k ∧ k ≤ n ∧ 0 ≤ y ∧ y < n) → (eS se (n - k).toNat y = eS se n.toNat u) → (n - k < (nf : Int)) → G xp l xe ({ frames := 2, cells := 0, slots := 0, locals := 42 }) xs xm xa xb xh xc 5 (fun _ => False) 0 0 (MQ xb (QW (some (.int (iI (eS se n.toNat u)))) (CW E ad sp se al ta n pg) (fun _ => False)) xa xs 0 0 (fun _ => False)) 4 [(0, .ref (ad 0)), (1, .int (iI u)), (2, .int (iI y)), (3, .int (iI k))] [] (CW E ad sp se al ta n pg) := by
    intro nf
    induction nf with
    | zero =>
      intro y k hk ht hmf
      exfalso
      omega
    | succ nf ihL4 =>
      intro y k hk ht hmf
      refine g_iload_n S dX1_endOfSees_4 rfl 3 rfl ?_
      refine g_aload_n S dX1_endOfSees_5 rfl 0 rfl ?_
      refine g_get S xK (ref := "BookIndex") hin1 7 (by decide) (show vwCl[1]? = some (RX1, TX1, 9) from rfl) kf36 (fun _ h9 => h9) (fun _ h => cw_x h) rfl dX1_endOfSees_6 ?_
      refine g_icmp_ge S (tgt := 36) dX1_endOfSees_9 (by decide) (by omega) (fun c9 => ?_) (fun c9 => ?_)
      · skip
        refine g_iconst S dX1_endOfSees_36 ?_
        rw [show (eS se n.toNat u) = (-1) from by rw [← ht, show (n - k).toNat = 0 by omega]; rfl]
        exact g_iret S xr xlk dX1_endOfSees_37 (fun _ h => h)
      · skip
        refine g_aload_n S dX1_endOfSees_12 rfl 0 rfl ?_
        refine g_iload_n S dX1_endOfSees_13 rfl 2 rfl ?_
        refine g_callV S xK (As := [.int (iI y)]) (st := []) (stk' := [.int (iI (se y))]) (Wp' := CW E ad sp se al ta n pg) (r := (RX1, TX1, 9)) (m_X1_seeAt l E hj sp se al ta n pg y (by omega) hn) (cwV 1 S.2.2.2.2 gX1_endOfSees_X1_seeAt rfl rfl rfl (by decide +kernel) ⟨Nat.le_of_ble_eq_true rfl, Nat.le_of_ble_eq_true rfl⟩) rfl rfl rfl rfl (Nat.le_of_ble_eq_true rfl) ⟨Nat.le_of_ble_eq_true rfl, Nat.le_of_ble_eq_true rfl⟩ (fun _ q => q.elim) (fun _ h => cw_x h) (fun _ h => h) (fun _ _ _ h _ _ => h) dX1_endOfSees_14 ?_
        refine g_istore S (lv' := [(4, .int (iI (se y))), (0, .ref (ad 0)), (1, .int (iI u)), (2, .int (iI y)), (3, .int (iI k))]) dX1_endOfSees_17 (Nat.le_of_ble_eq_true rfl) rfl ?_
        have s19 := hgr.1 y (by omega) (by omega)
        refine g_iload S dX1_endOfSees_19 0 rfl ?_
        refine g_iconst S dX1_endOfSees_21 ?_
        refine g_icmp_ne S (tgt := 27) dX1_endOfSees_22 (by decide) (by omega) (fun c22 => ?_) (fun c22 => ?_)
        · skip
          refine g_iload S dX1_endOfSees_27 0 rfl ?_
          refine g_istore_n S (lv' := [(2, .int (iI (se y))), (4, .int (iI (se y))), (0, .ref (ad 0)), (1, .int (iI u)), (3, .int (iI k))]) dX1_endOfSees_29 rfl (Nat.le_of_ble_eq_true rfl) rfl ?_
          refine g_iinc S (lv' := [(3, .int (iI (k + 1))), (2, .int (iI (se y))), (4, .int (iI (se y))), (0, .ref (ad 0)), (1, .int (iI u))]) dX1_endOfSees_30 4 rfl (Nat.le_of_ble_eq_true rfl) rfl ?_
          refine g_goto S (tgt := 4) dX1_endOfSees_33 (by decide) ?_
          refine g_lv [3, 4, 1, 0] rfl ?_
          exact ihL4 (se y) (k + 1) (by omega) (by rw [← ht, eS_n (t := n - k) (by omega) c22, show n - (k + 1) = n - k - 1 by omega]) (by omega)
        · skip
          refine g_iload_n S dX1_endOfSees_25 rfl 3 rfl ?_
          rw [show (eS se n.toNat u) = y from by rw [← ht, eS_y (by omega) c22]]
          exact g_iret S xr xlk dX1_endOfSees_26 (fun _ h => h)
  refine g_iload_n S dX1_endOfSees_0 rfl 1 rfl ?_
  refine g_istore_n S (lv' := [(2, .int (iI u)), (0, .ref (ad 0)), (1, .int (iI u))]) dX1_endOfSees_1 rfl (Nat.le_of_ble_eq_true rfl) rfl ?_
  refine g_iconst S dX1_endOfSees_2 ?_
  refine g_istore_n S (lv' := [(3, .int (iI 0)), (2, .int (iI u)), (0, .ref (ad 0)), (1, .int (iI u))]) dX1_endOfSees_3 rfl (Nat.le_of_ble_eq_true rfl) rfl ?_
  refine g_lv [2, 3, 1, 0] rfl ?_
  exact L4 ((n - 0) + 1).toNat u 0 (by omega) (by rw [show n - 0 = n by omega]) (by omega)
set_option maxHeartbeats 4000000 in
set_option maxRecDepth 100000 in
theorem m_X1_isVainEnd (l : Launch) (E : EN) {ad : Int → Nat} (hj : INJ ad) (sp : Int → SpT) (se : Int → Int) (al : Int → Nat) (ta : Int → Int) (n pg : Int) (u : Int) (hh : u = -1 ∨ (0 ≤ u ∧ u < n)) (hn : 0 ≤ n ∧ n ≤ 24) (hsp : SPV sp n pg) : Met l yX1_isVainEnd wsX1_isVainEnd ({ frames := 2, cells := 0, slots := 0, locals := 43 }) (CI E [.ref (ad 0), .int (iI u)] (CW E ad sp se al ta n pg)) (QW (some (.int (iI (pI (u = -1 ∨ (sp u).1 = 0))))) (CW E ad sp se al ta n pg) (fun _ => False)) 0 0 (fun _ => False) := by
  refine g_met (cc := cX1_isVainEnd) (maxL := 2) (ret := (some .boolean)) (lv := [(0, .ref (ad 0)), (1, .int (iI u))]) (by decide) rfl (Nat.le_of_ble_eq_true rfl) rfl ?_
  intro xp xe xs xm xa xb xh xc S xK xr xlk xin
  refine g_iload_n S dX1_isVainEnd_0 rfl 1 rfl ?_
  refine g_iconst S dX1_isVainEnd_1 ?_
  refine g_icmp_eq S (tgt := 16) dX1_isVainEnd_2 (by decide) (by omega) (fun c2 => ?_) (fun c2 => ?_)
  · skip
    refine g_iconst S dX1_isVainEnd_16 ?_
    refine g_goto S (tgt := 21) dX1_isVainEnd_17 (by decide) ?_
    rw [pI_t (P := u = -1 ∨ (sp u).1 = 0) (Or.inl c2)]
    exact g_zret S xr xlk (Or.inr rfl) dX1_isVainEnd_21 (fun _ h => h)
  · skip
    refine g_aload_n S dX1_isVainEnd_5 rfl 0 rfl ?_
    refine g_iload_n S dX1_isVainEnd_6 rfl 1 rfl ?_
    refine g_callV S xK (As := [.int (iI u)]) (st := []) (stk' := [.ref (ad (5 + 3 * u))]) (Wp' := CW E ad sp se al ta n pg) (r := (RX1, TX1, 9)) (m_X1_spansAt l E hj sp se al ta n pg u (by omega) hn) (cwV 1 S.2.2.2.2 gX1_isVainEnd_X1_spansAt rfl rfl rfl (by decide +kernel) ⟨Nat.le_of_ble_eq_true rfl, Nat.le_of_ble_eq_true rfl⟩) rfl rfl rfl rfl (Nat.le_of_ble_eq_true rfl) ⟨Nat.le_of_ble_eq_true rfl, Nat.le_of_ble_eq_true rfl⟩ (fun _ q => q.elim) (fun _ h => cw_x h) (fun _ h => h) (fun _ _ _ h _ _ => h) dX1_isVainEnd_7 ?_
    refine g_callV S xK (As := []) (st := []) (stk' := [.int (iI ((sp u).1))]) (Wp' := CW E ad sp se al ta n pg) (r := (RX0, TX0, 3)) (m_X0_count l E hj sp se al ta n pg u (by omega) (sp u) (rfl) ) (cwV 0 S.2.2.2.2 gX1_isVainEnd_X0_count rfl rfl rfl (by decide +kernel) ⟨Nat.le_of_ble_eq_true rfl, Nat.le_of_ble_eq_true rfl⟩) rfl rfl rfl rfl (Nat.le_of_ble_eq_true rfl) ⟨Nat.le_of_ble_eq_true rfl, Nat.le_of_ble_eq_true rfl⟩ (fun _ q => q.elim) (fun _ h => cw_o (i := u) h (by omega) (rfl)) (fun _ h => h) (fun _ _ _ h _ _ => h) dX1_isVainEnd_10 ?_
    have z13 := (hsp u (by omega) (by omega)).1.1
    have y13 := (hsp u (by omega) (by omega)).1.2.1
    refine g_if_ne S (tgt := 20) dX1_isVainEnd_13 (by decide) (by omega) (fun c13 => ?_) (fun c13 => ?_)
    · skip
      refine g_iconst S dX1_isVainEnd_20 ?_
      rw [pI_f (P := u = -1 ∨ (sp u).1 = 0) (fun z => z.elim c2 c13)]
      exact g_zret S xr xlk (Or.inl rfl) dX1_isVainEnd_21 (fun _ h => h)
    · skip
      refine g_iconst S dX1_isVainEnd_16 ?_
      refine g_goto S (tgt := 21) dX1_isVainEnd_17 (by decide) ?_
      rw [pI_t (P := u = -1 ∨ (sp u).1 = 0) (Or.inr c13)]
      exact g_zret S xr xlk (Or.inr rfl) dX1_isVainEnd_21 (fun _ h => h)
set_option maxHeartbeats 4000000 in
set_option maxRecDepth 100000 in
theorem m_X1_oneStepFrom (l : Launch) (E : EN) {ad : Int → Nat} (hj : INJ ad) (sp : Int → SpT) (se : Int → Int) (al : Int → Nat) (ta : Int → Int) (n pg : Int) (m : Nat) (hm : m < 2 ^ n.toNat) (hn : 0 ≤ n ∧ n ≤ 24) (hgr : GR se al n) : Met l yX1_oneStepFrom wsX1_oneStepFrom ({ frames := 1, cells := 0, slots := 0, locals := 20 }) (CI E [.ref (ad 0), .int (iI ((m : Nat) : Int))] (CW E ad sp se al ta n pg)) (QW (some (.int (iI ((stS se al m n.toNat : Nat) : Int)))) (CW E ad sp se al ta n pg) (fun _ => False)) 0 0 (fun _ => False) := by
  refine g_met (cc := cX1_oneStepFrom) (maxL := 4) (ret := (some .int)) (lv := [(0, .ref (ad 0)), (1, .int (iI ((m : Nat) : Int)))]) (by decide) rfl (Nat.le_of_ble_eq_true rfl) rfl ?_
  intro xp xe xs xm xa xb xh xc S xK xr xlk xin
  have kf36 := S.2.2.2.2 (.fieldLink RX1 36 "BookIndex" "headingCount" "I") (by decide +kernel)
  have kf20 := S.2.2.2.2 (.fieldLink RX1 20 "BookIndex" "seeAlsos" "[I") (by decide +kernel)
  have kf16 := S.2.2.2.2 (.fieldLink RX1 16 "BookIndex" "sees" "[I") (by decide +kernel)
  have hin1 : ∀ w ∈ wsX10, w ∈ wsX1_oneStepFrom := by decide +kernel
  have hm24 := mk_r (lt24 hn hm)
  have L4 : ∀ (nf : Nat) (o : Int) (r : Nat), (0 ≤ o ∧ o ≤ n) → (r = stS se al m o.toNat) → (n - o < (nf : Int)) → G xp l xe ({ frames := 1, cells := 0, slots := 0, locals := 20 }) xs xm xa xb xh xc 4 (fun _ => False) 0 0 (MQ xb (QW (some (.int (iI ((stS se al m n.toNat : Nat) : Int)))) (CW E ad sp se al ta n pg) (fun _ => False)) xa xs 0 0 (fun _ => False)) 4 [(0, .ref (ad 0)), (1, .int (iI ((m : Nat) : Int))), (2, .int (iI ((r : Nat) : Int))), (3, .int (iI o))] [] (CW E ad sp se al ta n pg) := by
    intro nf
    induction nf with
    | zero =>
      intro o r ho hr hmf
      exfalso
      omega
    | succ nf ihL4 =>
      intro o r ho hr hmf
      refine g_iload_n S dX1_oneStepFrom_4 rfl 3 rfl ?_
      refine g_aload_n S dX1_oneStepFrom_5 rfl 0 rfl ?_
      refine g_get S xK (ref := "BookIndex") hin1 7 (by decide) (show vwCl[1]? = some (RX1, TX1, 9) from rfl) kf36 (fun _ h9 => h9) (fun _ h => cw_x h) rfl dX1_oneStepFrom_6 ?_
      refine g_icmp_ge S (tgt := 62) dX1_oneStepFrom_9 (by decide) (by omega) (fun c9 => ?_) (fun c9 => ?_)
      · skip
        refine g_iload_n S dX1_oneStepFrom_62 rfl 2 rfl ?_
        rw [show ((stS se al m n.toNat : Nat) : Int) = ((r : Nat) : Int) from by rw [show n.toNat = o.toNat by omega, hr]]
        exact g_iret S xr xlk dX1_oneStepFrom_63 (fun _ h => h)
      · skip
        refine g_iload_n S dX1_oneStepFrom_12 rfl 1 rfl ?_
        refine g_iload_n S dX1_oneStepFrom_13 rfl 3 rfl ?_
        refine g_callS S xK (As := [.int (iI o)]) (st := [.int (iI ((m : Nat) : Int))]) (stk' := [.int (iI ((2 ^ o.toNat : Nat) : Int)), .int (iI ((m : Nat) : Int))]) (Wp' := CW E ad sp se al ta n pg) (m_X1_only l E (Wp := CW E ad sp se al ta n pg) o (by omega)) (cwS 1 S.2.2.2.2 gX1_oneStepFrom_X1_only rfl rfl rfl (by decide +kernel) ⟨Nat.le_of_ble_eq_true rfl, Nat.le_of_ble_eq_true rfl⟩) rfl rfl rfl (Nat.le_of_ble_eq_true rfl) ⟨Nat.le_of_ble_eq_true rfl, Nat.le_of_ble_eq_true rfl⟩ (fun _ q => q.elim) (fun _ h => h) (fun _ _ _ h _ _ => h) dX1_oneStepFrom_14 ?_
        refine g_iand S (z := (iI ((m &&& 2 ^ o.toNat : Nat) : Int))) dX1_oneStepFrom_17 (iI_and _ _) ?_
        have z18 : (m &&& 2 ^ o.toNat) ≤ m := Nat.and_le_left
        refine g_if_eq S (tgt := 56) dX1_oneStepFrom_18 (by decide) (by omega) (fun c18 => ?_) (fun c18 => ?_)
        · skip
          refine g_iinc S (lv' := [(3, .int (iI (o + 1))), (0, .ref (ad 0)), (1, .int (iI ((m : Nat) : Int))), (2, .int (iI ((r : Nat) : Int)))]) dX1_oneStepFrom_56 3 rfl (Nat.le_of_ble_eq_true rfl) rfl ?_
          refine g_goto S (tgt := 4) dX1_oneStepFrom_59 (by decide) ?_
          refine g_lv [1, 2, 3, 0] rfl ?_
          exact ihL4 (o + 1) r (by omega) (by rw [stS_n ho.1 (fun z => bit_ne.mpr z c18), ← hr]) (by omega)
        · skip
          refine g_iload_n S dX1_oneStepFrom_21 rfl 2 rfl ?_
          refine g_aload_n S dX1_oneStepFrom_22 rfl 0 rfl ?_
          refine g_get S xK (ref := "BookIndex") hin1 2 (by decide) (show vwCl[1]? = some (RX1, TX1, 9) from rfl) kf20 (fun _ h9 => h9) (fun _ h => cw_x h) rfl dX1_oneStepFrom_23 ?_
          refine g_iload_n S dX1_oneStepFrom_26 rfl 3 rfl ?_
          refine g_iald S xK (n := 24) (fun _ h => cw_al h) (by omega) (by decide) dX1_oneStepFrom_27 ?_
          refine g_ior S (z := (iI ((r ||| (al o) : Nat) : Int))) dX1_oneStepFrom_28 (iI_or _ _) ?_
          refine g_istore_n S (lv' := [(2, .int (iI ((r ||| (al o) : Nat) : Int))), (0, .ref (ad 0)), (1, .int (iI ((m : Nat) : Int))), (3, .int (iI o))]) dX1_oneStepFrom_29 rfl (Nat.le_of_ble_eq_true rfl) rfl ?_
          have L54 : ∀ (y : Nat) (r2 : Nat), (y = sb (se o)) → (r2 = r ||| al o) → G xp l xe ({ frames := 1, cells := 0, slots := 0, locals := 20 }) xs xm xa xb xh xc 4 (fun _ => False) 0 0 (MQ xb (QW (some (.int (iI ((stS se al m n.toNat : Nat) : Int)))) (CW E ad sp se al ta n pg) (fun _ => False)) xa xs 0 0 (fun _ => False)) 54 [(0, .ref (ad 0)), (1, .int (iI ((m : Nat) : Int))), (2, .int (iI ((r2 : Nat) : Int))), (3, .int (iI o))] [.int (iI ((y : Nat) : Int)), .int (iI ((r2 : Nat) : Int))] (CW E ad sp se al ta n pg) := by
            intro y r2 hx hr2
            refine g_ior S (z := (iI ((r2 ||| y : Nat) : Int))) dX1_oneStepFrom_54 (iI_or _ _) ?_
            refine g_istore_n S (lv' := [(2, .int (iI ((r2 ||| y : Nat) : Int))), (0, .ref (ad 0)), (1, .int (iI ((m : Nat) : Int))), (3, .int (iI o))]) dX1_oneStepFrom_55 rfl (Nat.le_of_ble_eq_true rfl) rfl ?_
            refine g_iinc S (lv' := [(3, .int (iI (o + 1))), (2, .int (iI ((r2 ||| y : Nat) : Int))), (0, .ref (ad 0)), (1, .int (iI ((m : Nat) : Int)))]) dX1_oneStepFrom_56 3 rfl (Nat.le_of_ble_eq_true rfl) rfl ?_
            refine g_goto S (tgt := 4) dX1_oneStepFrom_59 (by decide) ?_
            refine g_lv [2, 3, 1, 0] rfl ?_
            exact ihL4 (o + 1) (r2 ||| y) (by omega) (by rw [stS_y ho.1 (bit_ne.mp c18), ← hr, hx, hr2, Nat.or_assoc]) (by omega)
          refine g_iload_n S dX1_oneStepFrom_30 rfl 0 rfl ?_
          refine g_aload_n S dX1_oneStepFrom_31 rfl 1 rfl ?_
          refine g_get S xK (ref := "BookIndex") hin1 1 (by decide) (show vwCl[1]? = some (RX1, TX1, 9) from rfl) kf16 (fun _ h9 => h9) (fun _ h => cw_x h) rfl dX1_oneStepFrom_32 ?_
          refine g_iload_n S dX1_oneStepFrom_35 rfl 3 rfl ?_
          refine g_iald S xK (n := 24) (fun _ h => cw_se h) (by omega) (by decide) dX1_oneStepFrom_36 ?_
          refine g_iconst S dX1_oneStepFrom_37 ?_
          have s38 := hgr.1 o (by omega) (by omega)
          refine g_icmp_ne S (tgt := 45) dX1_oneStepFrom_38 (by decide) (by omega) (fun c38 => ?_) (fun c38 => ?_)
          · skip
            refine g_aload_n S dX1_oneStepFrom_45 rfl 1 rfl ?_
            refine g_get S xK (ref := "BookIndex") hin1 1 (by decide) (show vwCl[1]? = some (RX1, TX1, 9) from rfl) kf16 (fun _ h9 => h9) (fun _ h => cw_x h) rfl dX1_oneStepFrom_46 ?_
            refine g_iload_n S dX1_oneStepFrom_49 rfl 3 rfl ?_
            refine g_iald S xK (n := 24) (fun _ h => cw_se h) (by omega) (by decide) dX1_oneStepFrom_50 ?_
            refine g_callS S xK (As := [.int (iI (se o))]) (st := [.int (iI ((r ||| (al o) : Nat) : Int))]) (stk' := [.int (iI ((2 ^ (se o).toNat : Nat) : Int)), .int (iI ((r ||| (al o) : Nat) : Int))]) (Wp' := CW E ad sp se al ta n pg) (m_X1_only l E (Wp := CW E ad sp se al ta n pg) (se o) (by omega)) (cwS 1 S.2.2.2.2 gX1_oneStepFrom_X1_only rfl rfl rfl (by decide +kernel) ⟨Nat.le_of_ble_eq_true rfl, Nat.le_of_ble_eq_true rfl⟩) rfl rfl rfl (Nat.le_of_ble_eq_true rfl) ⟨Nat.le_of_ble_eq_true rfl, Nat.le_of_ble_eq_true rfl⟩ (fun _ q => q.elim) (fun _ h => h) (fun _ _ _ h _ _ => h) dX1_oneStepFrom_51 ?_
            refine g_lv [1, 2, 0, 3] rfl ?_
            exact L54 (2 ^ (se o).toNat) (r ||| (al o)) (by unfold sb; rw [if_neg c38]) (rfl)
          · skip
            refine g_iconst S dX1_oneStepFrom_41 ?_
            refine g_goto S (tgt := 54) dX1_oneStepFrom_42 (by decide) ?_
            refine g_lv [1, 2, 0, 3] rfl ?_
            exact L54 0 (r ||| (al o)) (by unfold sb; rw [if_pos c38]) (rfl)
  refine g_iconst S dX1_oneStepFrom_0 ?_
  refine g_istore_n S (lv' := [(2, .int (iI 0)), (0, .ref (ad 0)), (1, .int (iI ((m : Nat) : Int)))]) dX1_oneStepFrom_1 rfl (Nat.le_of_ble_eq_true rfl) rfl ?_
  refine g_iconst S dX1_oneStepFrom_2 ?_
  refine g_istore_n S (lv' := [(3, .int (iI 0)), (2, .int (iI 0)), (0, .ref (ad 0)), (1, .int (iI ((m : Nat) : Int)))]) dX1_oneStepFrom_3 rfl (Nat.le_of_ble_eq_true rfl) rfl ?_
  refine g_lv [2, 3, 1, 0] rfl ?_
  exact L4 ((n - 0) + 1).toNat 0 0 (by omega) (rfl) (by omega)
set_option maxHeartbeats 4000000 in
set_option maxRecDepth 100000 in
theorem m_X1_allStepsFrom (l : Launch) (E : EN) {ad : Int → Nat} (hj : INJ ad) (sp : Int → SpT) (se : Int → Int) (al : Int → Nat) (ta : Int → Int) (n pg : Int) (m : Nat) (hm : m < 2 ^ n.toNat) (hn : 0 ≤ n ∧ n ≤ 24) (hgr : GR se al n) : Met l yX1_allStepsFrom wsX1_allStepsFrom ({ frames := 2, cells := 0, slots := 0, locals := 43 }) (CI E [.ref (ad 0), .int (iI ((m : Nat) : Int))] (CW E ad sp se al ta n pg)) (QW (some (.int (iI ((itS se al n 24 m : Nat) : Int)))) (CW E ad sp se al ta n pg) (fun _ => False)) 0 0 (fun _ => False) := by
  refine g_met (cc := cX1_allStepsFrom) (maxL := 5) (ret := (some .int)) (lv := [(0, .ref (ad 0)), (1, .int (iI ((m : Nat) : Int)))]) (by decide) rfl (Nat.le_of_ble_eq_true rfl) rfl ?_
  intro xp xe xs xm xa xb xh xc S xK xr xlk xin
  have kf36 := S.2.2.2.2 (.fieldLink RX1 36 "BookIndex" "headingCount" "I") (by decide +kernel)
  have hin1 : ∀ w ∈ wsX10, w ∈ wsX1_allStepsFrom := by decide +kernel
  have L4 : ∀ (nf : Nat) (y : Nat) (k : Int), (0 ≤ k ∧ k ≤ n) → (y = itS se al n k.toNat m) → (y < 2 ^ n.toNat) → (m = 0 → k = 0) → (m ≠ 0 → k + 1 ≤ (pop y 24 : Int)) → (n - k < (nf : Int)) → G xp l xe ({ frames := 2, cells := 0, slots := 0, locals := 43 }) xs xm xa xb xh xc 5 (fun _ => False) 0 0 (MQ xb (QW (some (.int (iI ((itS se al n 24 m : Nat) : Int)))) (CW E ad sp se al ta n pg) (fun _ => False)) xa xs 0 0 (fun _ => False)) 4 [(0, .ref (ad 0)), (1, .int (iI ((m : Nat) : Int))), (2, .int (iI ((y : Nat) : Int))), (3, .int (iI k))] [] (CW E ad sp se al ta n pg) := by
    intro nf
    induction nf with
    | zero =>
      intro y k hk hx hxl hp0 hp1 hmf
      exfalso
      omega
    | succ nf ihL4 =>
      intro y k hk hx hxl hp0 hp1 hmf
      have hsl := stS_lt hgr y n.toNat (by omega)
      have hmr := mk_r (lt24 hn hxl)
      have hmr2 := mk_r (lt24 hn (Nat.or_lt_two_pow hxl hsl))
      refine g_iload_n S dX1_allStepsFrom_4 rfl 3 rfl ?_
      refine g_aload_n S dX1_allStepsFrom_5 rfl 0 rfl ?_
      refine g_get S xK (ref := "BookIndex") hin1 7 (by decide) (show vwCl[1]? = some (RX1, TX1, 9) from rfl) kf36 (fun _ h9 => h9) (fun _ h => cw_x h) rfl dX1_allStepsFrom_6 ?_
      refine g_icmp_ge S (tgt := 38) dX1_allStepsFrom_9 (by decide) (by omega) (fun c9 => ?_) (fun c9 => ?_)
      · skip
        refine g_iload_n S dX1_allStepsFrom_38 rfl 2 rfl ?_
        rw [show itS se al n 24 m = y from by by_cases z : m = 0; (· have k0 := hp0 z; have x0 : y = 0 := (by rw [hx, k0, z] <;> rfl); rw [x0, z]; exact itS_fix (by rw [stS_0]; rfl) _); (· have z1 := hp1 z; have z2 := pop_lw (k := 24) hxl; omega)]
        exact g_iret S xr xlk dX1_allStepsFrom_39 (fun _ h => h)
      · skip
        refine g_iload_n S dX1_allStepsFrom_12 rfl 2 rfl ?_
        refine g_istore S (lv' := [(4, .int (iI ((y : Nat) : Int))), (0, .ref (ad 0)), (1, .int (iI ((m : Nat) : Int))), (2, .int (iI ((y : Nat) : Int))), (3, .int (iI k))]) dX1_allStepsFrom_13 (Nat.le_of_ble_eq_true rfl) rfl ?_
        refine g_iload_n S dX1_allStepsFrom_15 rfl 3 rfl ?_
        refine g_aload_n S dX1_allStepsFrom_16 rfl 1 rfl ?_
        refine g_iload S dX1_allStepsFrom_17 0 rfl ?_
        refine g_callV S xK (As := [.int (iI ((y : Nat) : Int))]) (st := [.int (iI ((y : Nat) : Int))]) (stk' := [.int (iI ((stS se al y n.toNat : Nat) : Int)), .int (iI ((y : Nat) : Int))]) (Wp' := CW E ad sp se al ta n pg) (r := (RX1, TX1, 9)) (m_X1_oneStepFrom l E hj sp se al ta n pg y hxl hn hgr) (cwV 1 S.2.2.2.2 gX1_allStepsFrom_X1_oneStepFrom rfl rfl rfl (by decide +kernel) ⟨Nat.le_of_ble_eq_true rfl, Nat.le_of_ble_eq_true rfl⟩) rfl rfl rfl rfl (Nat.le_of_ble_eq_true rfl) ⟨Nat.le_of_ble_eq_true rfl, Nat.le_of_ble_eq_true rfl⟩ (fun _ q => q.elim) (fun _ h => cw_x h) (fun _ h => h) (fun _ _ _ h _ _ => h) dX1_allStepsFrom_19 ?_
        refine g_ior S (z := (iI ((y ||| (stS se al y n.toNat) : Nat) : Int))) dX1_allStepsFrom_22 (iI_or _ _) ?_
        refine g_istore_n S (lv' := [(2, .int (iI ((y ||| (stS se al y n.toNat) : Nat) : Int))), (4, .int (iI ((y : Nat) : Int))), (0, .ref (ad 0)), (1, .int (iI ((m : Nat) : Int))), (3, .int (iI k))]) dX1_allStepsFrom_23 rfl (Nat.le_of_ble_eq_true rfl) rfl ?_
        refine g_iload_n S dX1_allStepsFrom_24 rfl 0 rfl ?_
        refine g_iload S dX1_allStepsFrom_25 1 rfl ?_
        refine g_icmp_ne S (tgt := 32) dX1_allStepsFrom_27 (by decide) (by omega) (fun c27 => ?_) (fun c27 => ?_)
        · skip
          refine g_iinc S (lv' := [(3, .int (iI (k + 1))), (2, .int (iI ((y ||| (stS se al y n.toNat) : Nat) : Int))), (4, .int (iI ((y : Nat) : Int))), (0, .ref (ad 0)), (1, .int (iI ((m : Nat) : Int)))]) dX1_allStepsFrom_32 4 rfl (Nat.le_of_ble_eq_true rfl) rfl ?_
          refine g_goto S (tgt := 4) dX1_allStepsFrom_35 (by decide) ?_
          refine g_lv [3, 4, 1, 0] rfl ?_
          exact ihL4 (y ||| (stS se al y n.toNat)) (k + 1) (by omega) (by rw [show (k + 1).toNat = k.toNat + 1 by omega, itS_s, ← hx]) (Nat.or_lt_two_pow hxl hsl) (fun z => by have k0 := hp0 z; have x0 : y = 0 := (by rw [hx, k0, z] <;> rfl); exact absurd (show (((y ||| stS se al y n.toNat : Nat)) : Int) = (y : Int) by rw [x0, stS_0]; rfl) c27) (fun z => by have z1 := hp1 z; have z2 := or_grow (w := 24) (m := y) (s := stS se al y n.toNat) (fun q => c27 (by rw [q])) (lt24 hn (Nat.or_lt_two_pow hxl hsl)); omega) (by omega)
        · skip
          refine g_iload_n S dX1_allStepsFrom_30 rfl 0 rfl ?_
          rw [show itS se al n 24 m = y ||| stS se al y n.toNat from by have z : y ||| stS se al y n.toNat = y := Int.ofNat.inj c27; rw [z, show 24 = k.toNat + (24 - k.toNat) by omega, itS_add, ← hx]; exact itS_fix z _]
          exact g_iret S xr xlk dX1_allStepsFrom_31 (fun _ h => h)
  refine g_iload_n S dX1_allStepsFrom_0 rfl 1 rfl ?_
  refine g_istore_n S (lv' := [(2, .int (iI ((m : Nat) : Int))), (0, .ref (ad 0)), (1, .int (iI ((m : Nat) : Int)))]) dX1_allStepsFrom_1 rfl (Nat.le_of_ble_eq_true rfl) rfl ?_
  refine g_iconst S dX1_allStepsFrom_2 ?_
  refine g_istore_n S (lv' := [(3, .int (iI 0)), (2, .int (iI ((m : Nat) : Int))), (0, .ref (ad 0)), (1, .int (iI ((m : Nat) : Int)))]) dX1_allStepsFrom_3 rfl (Nat.le_of_ble_eq_true rfl) rfl ?_
  refine g_lv [2, 3, 1, 0] rfl ?_
  exact L4 ((n - 0) + 1).toNat m 0 (by omega) (rfl) (hm) (fun _ => rfl) (fun z => by have z2 := pop_pos z (lt24 hn hm); omega) (by omega)
set_option maxHeartbeats 4000000 in
set_option maxRecDepth 100000 in
theorem m_X1_countReached (l : Launch) (E : EN) {ad : Int → Nat} (hj : INJ ad) (sp : Int → SpT) (se : Int → Int) (al : Int → Nat) (ta : Int → Int) (n pg : Int) (u : Int) (hh : 0 ≤ u ∧ u < n) (hn : 0 ≤ n ∧ n ≤ 24) (hgr : GR se al n) : Met l yX1_countReached wsX1_countReached ({ frames := 3, cells := 0, slots := 0, locals := 67 }) (CI E [.ref (ad 0), .int (iI u)] (CW E ad sp se al ta n pg)) (QW (some (.int (iI ((pop (itS se al n 24 (2 ^ u.toNat)) 24 : Nat) : Int)))) (CW E ad sp se al ta n pg) (fun _ => False)) 0 0 (fun _ => False) := by
  refine g_met (cc := cX1_countReached) (maxL := 2) (ret := (some .int)) (lv := [(0, .ref (ad 0)), (1, .int (iI u))]) (by decide) rfl (Nat.le_of_ble_eq_true rfl) rfl ?_
  intro xp xe xs xm xa xb xh xc S xK xr xlk xin
  have h1l : 2 ^ u.toNat < 2 ^ n.toNat := Nat.pow_lt_pow_right (by decide) (by omega)
  refine g_aload_n S dX1_countReached_0 rfl 0 rfl ?_
  refine g_iload_n S dX1_countReached_1 rfl 1 rfl ?_
  refine g_callS S xK (As := [.int (iI u)]) (st := [.ref (ad 0)]) (stk' := [.int (iI ((2 ^ u.toNat : Nat) : Int)), .ref (ad 0)]) (Wp' := CW E ad sp se al ta n pg) (m_X1_only l E (Wp := CW E ad sp se al ta n pg) u (by omega)) (cwS 1 S.2.2.2.2 gX1_countReached_X1_only rfl rfl rfl (by decide +kernel) ⟨Nat.le_of_ble_eq_true rfl, Nat.le_of_ble_eq_true rfl⟩) rfl rfl rfl (Nat.le_of_ble_eq_true rfl) ⟨Nat.le_of_ble_eq_true rfl, Nat.le_of_ble_eq_true rfl⟩ (fun _ q => q.elim) (fun _ h => h) (fun _ _ _ h _ _ => h) dX1_countReached_2 ?_
  refine g_callV S xK (As := [.int (iI ((2 ^ u.toNat : Nat) : Int))]) (st := []) (stk' := [.int (iI ((itS se al n 24 (2 ^ u.toNat) : Nat) : Int))]) (Wp' := CW E ad sp se al ta n pg) (r := (RX1, TX1, 9)) (m_X1_allStepsFrom l E hj sp se al ta n pg (2 ^ u.toNat) h1l hn hgr) (cwV 1 S.2.2.2.2 gX1_countReached_X1_allStepsFrom rfl rfl rfl (by decide +kernel) ⟨Nat.le_of_ble_eq_true rfl, Nat.le_of_ble_eq_true rfl⟩) rfl rfl rfl rfl (Nat.le_of_ble_eq_true rfl) ⟨Nat.le_of_ble_eq_true rfl, Nat.le_of_ble_eq_true rfl⟩ (fun _ q => q.elim) (fun _ h => cw_x h) (fun _ h => h) (fun _ _ _ h _ _ => h) dX1_countReached_5 ?_
  refine g_callS S xK (As := [.int (iI ((itS se al n 24 (2 ^ u.toNat) : Nat) : Int))]) (st := []) (stk' := [.int (iI ((pop (itS se al n 24 (2 ^ u.toNat)) 24 : Nat) : Int))]) (Wp' := CW E ad sp se al ta n pg) (m_J6_bitCount_0f7a4 l E (CW E ad sp se al ta n pg) (itS se al n 24 (2 ^ u.toNat)) (lt24 hn (itS_lt hgr hn.1 24 _ h1l))) (va_cwS 1 S.2.2.2.2 gX1_countReached_J6_bitCount_0f7a4 rfl rfl rfl (by decide +kernel) ⟨Nat.le_of_ble_eq_true rfl, Nat.le_of_ble_eq_true rfl⟩) rfl rfl rfl (Nat.le_of_ble_eq_true rfl) ⟨Nat.le_of_ble_eq_true rfl, Nat.le_of_ble_eq_true rfl⟩ (fun _ q => q.elim) (fun _ h => h) (fun _ _ _ h _ _ => h) dX1_countReached_8 ?_
  exact g_iret S xr xlk dX1_countReached_11 (fun _ h => h)
set_option maxHeartbeats 4000000 in
set_option maxRecDepth 100000 in
theorem m_X1_comesBack (l : Launch) (E : EN) {ad : Int → Nat} (hj : INJ ad) (sp : Int → SpT) (se : Int → Int) (al : Int → Nat) (ta : Int → Int) (n pg : Int) (u : Int) (hh : 0 ≤ u ∧ u < n) (hn : 0 ≤ n ∧ n ≤ 24) (hgr : GR se al n) : Met l yX1_comesBack wsX1_comesBack ({ frames := 3, cells := 0, slots := 0, locals := 67 }) (CI E [.ref (ad 0), .int (iI u)] (CW E ad sp se al ta n pg)) (QW (some (.int (iI (pI ((itS se al n 24 (stS se al (2 ^ u.toNat) n.toNat)).testBit u.toNat = true))))) (CW E ad sp se al ta n pg) (fun _ => False)) 0 0 (fun _ => False) := by
  refine g_met (cc := cX1_comesBack) (maxL := 3) (ret := (some .boolean)) (lv := [(0, .ref (ad 0)), (1, .int (iI u))]) (by decide) rfl (Nat.le_of_ble_eq_true rfl) rfl ?_
  intro xp xe xs xm xa xb xh xc S xK xr xlk xin
  have h1l : 2 ^ u.toNat < 2 ^ n.toNat := Nat.pow_lt_pow_right (by decide) (by omega)
  have hsl := stS_lt hgr (2 ^ u.toNat) n.toNat (by omega)
  have hil := mk_r (lt24 hn (itS_lt hgr hn.1 24 _ hsl))
  refine g_aload_n S dX1_comesBack_0 rfl 0 rfl ?_
  refine g_iload_n S dX1_comesBack_1 rfl 1 rfl ?_
  refine g_callS S xK (As := [.int (iI u)]) (st := [.ref (ad 0)]) (stk' := [.int (iI ((2 ^ u.toNat : Nat) : Int)), .ref (ad 0)]) (Wp' := CW E ad sp se al ta n pg) (m_X1_only l E (Wp := CW E ad sp se al ta n pg) u (by omega)) (cwS 1 S.2.2.2.2 gX1_comesBack_X1_only rfl rfl rfl (by decide +kernel) ⟨Nat.le_of_ble_eq_true rfl, Nat.le_of_ble_eq_true rfl⟩) rfl rfl rfl (Nat.le_of_ble_eq_true rfl) ⟨Nat.le_of_ble_eq_true rfl, Nat.le_of_ble_eq_true rfl⟩ (fun _ q => q.elim) (fun _ h => h) (fun _ _ _ h _ _ => h) dX1_comesBack_2 ?_
  refine g_callV S xK (As := [.int (iI ((2 ^ u.toNat : Nat) : Int))]) (st := []) (stk' := [.int (iI ((stS se al (2 ^ u.toNat) n.toNat : Nat) : Int))]) (Wp' := CW E ad sp se al ta n pg) (r := (RX1, TX1, 9)) (m_X1_oneStepFrom l E hj sp se al ta n pg (2 ^ u.toNat) h1l hn hgr) (cwV 1 S.2.2.2.2 gX1_comesBack_X1_oneStepFrom rfl rfl rfl (by decide +kernel) ⟨Nat.le_of_ble_eq_true rfl, Nat.le_of_ble_eq_true rfl⟩) rfl rfl rfl rfl (Nat.le_of_ble_eq_true rfl) ⟨Nat.le_of_ble_eq_true rfl, Nat.le_of_ble_eq_true rfl⟩ (fun _ q => q.elim) (fun _ h => cw_x h) (fun _ h => h) (fun _ _ _ h _ _ => h) dX1_comesBack_5 ?_
  refine g_istore_n S (lv' := [(2, .int (iI ((stS se al (2 ^ u.toNat) n.toNat : Nat) : Int))), (0, .ref (ad 0)), (1, .int (iI u))]) dX1_comesBack_8 rfl (Nat.le_of_ble_eq_true rfl) rfl ?_
  refine g_aload_n S dX1_comesBack_9 rfl 1 rfl ?_
  refine g_iload_n S dX1_comesBack_10 rfl 0 rfl ?_
  refine g_callV S xK (As := [.int (iI ((stS se al (2 ^ u.toNat) n.toNat : Nat) : Int))]) (st := []) (stk' := [.int (iI ((itS se al n 24 (stS se al (2 ^ u.toNat) n.toNat) : Nat) : Int))]) (Wp' := CW E ad sp se al ta n pg) (r := (RX1, TX1, 9)) (m_X1_allStepsFrom l E hj sp se al ta n pg (stS se al (2 ^ u.toNat) n.toNat) hsl hn hgr) (cwV 1 S.2.2.2.2 gX1_comesBack_X1_allStepsFrom rfl rfl rfl (by decide +kernel) ⟨Nat.le_of_ble_eq_true rfl, Nat.le_of_ble_eq_true rfl⟩) rfl rfl rfl rfl (Nat.le_of_ble_eq_true rfl) ⟨Nat.le_of_ble_eq_true rfl, Nat.le_of_ble_eq_true rfl⟩ (fun _ q => q.elim) (fun _ h => cw_x h) (fun _ h => h) (fun _ _ _ h _ _ => h) dX1_comesBack_11 ?_
  refine g_iload_n S dX1_comesBack_14 rfl 2 rfl ?_
  refine g_callS S xK (As := [.int (iI u)]) (st := [.int (iI ((itS se al n 24 (stS se al (2 ^ u.toNat) n.toNat) : Nat) : Int))]) (stk' := [.int (iI ((2 ^ u.toNat : Nat) : Int)), .int (iI ((itS se al n 24 (stS se al (2 ^ u.toNat) n.toNat) : Nat) : Int))]) (Wp' := CW E ad sp se al ta n pg) (m_X1_only l E (Wp := CW E ad sp se al ta n pg) u (by omega)) (cwS 1 S.2.2.2.2 gX1_comesBack_X1_only rfl rfl rfl (by decide +kernel) ⟨Nat.le_of_ble_eq_true rfl, Nat.le_of_ble_eq_true rfl⟩) rfl rfl rfl (Nat.le_of_ble_eq_true rfl) ⟨Nat.le_of_ble_eq_true rfl, Nat.le_of_ble_eq_true rfl⟩ (fun _ q => q.elim) (fun _ h => h) (fun _ _ _ h _ _ => h) dX1_comesBack_15 ?_
  refine g_iand S (z := (iI (((itS se al n 24 (stS se al (2 ^ u.toNat) n.toNat)) &&& 2 ^ u.toNat : Nat) : Int))) dX1_comesBack_18 (iI_and _ _) ?_
  have z19 : ((itS se al n 24 (stS se al (2 ^ u.toNat) n.toNat)) &&& 2 ^ u.toNat) ≤ itS se al n 24 (stS se al (2 ^ u.toNat) n.toNat) := Nat.and_le_left
  refine g_if_eq S (tgt := 26) dX1_comesBack_19 (by decide) (by omega) (fun c19 => ?_) (fun c19 => ?_)
  · skip
    refine g_iconst S dX1_comesBack_26 ?_
    rw [pI_f (P := (itS se al n 24 (stS se al (2 ^ u.toNat) n.toNat)).testBit u.toNat = true) (fun z => bit_ne.mpr z c19)]
    exact g_zret S xr xlk (Or.inl rfl) dX1_comesBack_27 (fun _ h => h)
  · skip
    refine g_iconst S dX1_comesBack_22 ?_
    refine g_goto S (tgt := 27) dX1_comesBack_23 (by decide) ?_
    rw [pI_t (P := (itS se al n 24 (stS se al (2 ^ u.toNat) n.toNat)).testBit u.toNat = true) (bit_ne.mp c19)]
    exact g_zret S xr xlk (Or.inr rfl) dX1_comesBack_27 (fun _ h => h)
set_option maxHeartbeats 4000000 in
set_option maxRecDepth 100000 in
theorem m_X1_tallyAt (l : Launch) (E : EN) {ad : Int → Nat} (hj : INJ ad) (sp : Int → SpT) (se : Int → Int) (al : Int → Nat) (ta : Int → Int) (n pg : Int) (q v : Int) (hq : 0 ≤ q ∧ q ≤ 301) : Met l yX1_tallyAt wsX1_tallyAt ({ frames := 0, cells := 0, slots := 0, locals := 0 }) (CI E [.ref (ad 0), .int (iI q), .int (iI v)] (CW E ad sp se al ta n pg)) (QW (none) (CW E ad sp se al (upI ta q (ta q + v)) n pg) (AX ad)) 0 0 (AX ad) := by
  refine g_met (cc := cX1_tallyAt) (maxL := 3) (ret := none) (lv := [(0, .ref (ad 0)), (1, .int (iI q)), (2, .int (iI v))]) (by decide) rfl (Nat.le_of_ble_eq_true rfl) rfl ?_
  intro xp xe xs xm xa xb xh xc S xK xr xlk xin
  have kf23 := S.2.2.2.2 (.fieldLink RX1 23 "BookIndex" "tally" "[I") (by decide +kernel)
  have hin1 : ∀ w ∈ wsX10, w ∈ wsX1_tallyAt := by decide +kernel
  refine g_iload_n S dX1_tallyAt_0 rfl 1 rfl ?_
  refine g_if_lt S (tgt := 23) dX1_tallyAt_1 (by decide) (by omega) (fun c1 => ?_) (fun c1 => ?_)
  · skip
    exact absurd c1 (by omega)
  · skip
    refine g_iload_n S dX1_tallyAt_4 rfl 1 rfl ?_
    refine g_aload_n S dX1_tallyAt_5 rfl 0 rfl ?_
    refine g_get S xK (ref := "BookIndex") hin1 3 (by decide) (show vwCl[1]? = some (RX1, TX1, 9) from rfl) kf23 (fun _ h9 => h9) (fun _ h => cw_x h) rfl dX1_tallyAt_6 ?_
    refine g_alen S xK (n := 302) (x := 0) 0 rfl (fun _ h => cw_ta h) dX1_tallyAt_9 ?_
    refine g_icmp_ge S (tgt := 23) dX1_tallyAt_10 (by decide) (by omega) (fun c10 => ?_) (fun c10 => ?_)
    · skip
      exact absurd c10 (by omega)
    · skip
      refine g_aload_n S dX1_tallyAt_13 rfl 0 rfl ?_
      refine g_get S xK (ref := "BookIndex") hin1 3 (by decide) (show vwCl[1]? = some (RX1, TX1, 9) from rfl) kf23 (fun _ h9 => h9) (fun _ h => cw_x h) rfl dX1_tallyAt_14 ?_
      refine g_iload_n S dX1_tallyAt_17 rfl 1 rfl ?_
      refine g_dup2 S dX1_tallyAt_18 rfl rfl ?_
      refine g_iald S xK (n := 302) (fun _ h => cw_ta h) (by omega) (by decide) dX1_tallyAt_19 ?_
      refine g_iload_n S dX1_tallyAt_20 rfl 2 rfl ?_
      refine g_iadd S dX1_tallyAt_21 ?_
      refine g_iast S xK (Wp' := CW E ad sp se al (upI ta q (ta q + v)) n pg) (n := 302) (fun _ h => cw_ta h) (by omega) (by decide) (ax_in (by omega)) (fun _ _ h hv _ oq => cw_sTa hj h hv oq) dX1_tallyAt_22 ?_
      exact g_vret S xr xlk dX1_tallyAt_23 (fun _ h => h)
