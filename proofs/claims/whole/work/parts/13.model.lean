/-! THE MODEL: its calls -/
set_option maxHeartbeats 4000000 in
set_option maxRecDepth 100000 in
theorem m_X2_spansOf (l : Launch) (E : EN) {am : Int → Nat} (hj : INM am) (th pg n : Int) (on se : Int → Int) (al : Int → Nat) (sp : Int → SpT) (u : Int) (hh : 0 ≤ u ∧ u < n) (hn : 0 ≤ n ∧ n ≤ 24) (hpg : 1 ≤ pg ∧ pg ≤ 300) (hrl : RPS on sp n) (hsp : SPV sp n pg) (hon : ∀ k, on k = 0 ∨ on k = 1) : Met l yX2_spansOf wsX2_spansOf ({ frames := 2, cells := 0, slots := 0, locals := 48 }) (CI E [.ref (am 0), .int (iI u)] (MW E am th pg n on se al)) (QW (some (.int (iI ((sp u).1)))) (MW E am 0 pg n on se al) (AM am)) 0 0 (AM am) := by
  refine g_met (cc := cX2_spansOf) (maxL := 2) (ret := (some .int)) (lv := [(0, .ref (am 0)), (1, .int (iI u))]) (by decide) rfl (Nat.le_of_ble_eq_true rfl) rfl ?_
  intro xp xe xs xm xa xb xh xc S xK xr xlk xin
  have kf24 := S.2.2.2.2 (.fieldLink RX2 24 "BookIndexModel" "thrown" "I") (by decide +kernel)
  have hin2 : ∀ w ∈ wsX20, w ∈ wsX2_spansOf := by decide +kernel
  refine g_aload_n S dX2_spansOf_0 rfl 0 rfl ?_
  refine g_iconst S dX2_spansOf_1 ?_
  refine g_put S xK (Wp' := MW E am 0 pg n on se al) (ref := "BookIndexModel") (ty := .int) hin2 tyX2 tyX2_ok nmX2 0 (by decide) (show vwCl[2]? = some (RX2, TX2, 6) from rfl) kf24 (fun _ h9 => h9) rfl (by decide +kernel) rfl rfl (fun _ h => mw_x h) (Nat.le_of_ble_eq_true rfl) (am_in (by omega)) (fun _ _ h hv _ oq => mw_sX hj h hv oq) dX2_spansOf_2 ?_
  refine g_aload_n S dX2_spansOf_5 rfl 0 rfl ?_
  refine g_iload_n S dX2_spansOf_6 rfl 1 rfl ?_
  refine g_callV S xK (As := [.int (iI u)]) (st := []) (stk' := [.int (iI (pI (0 ≤ u ∧ u ≤ n - 1)))]) (Wp' := MW E am 0 pg n on se al) (r := (RX2, TX2, 6)) (m_X2_isHeading l E hj 0 pg n on se al u (by omega) hn) (cwV 1 S.2.2.2.2 gX2_spansOf_X2_isHeading rfl rfl rfl (by decide +kernel) ⟨Nat.le_of_ble_eq_true rfl, Nat.le_of_ble_eq_true rfl⟩) rfl rfl rfl rfl (Nat.le_of_ble_eq_true rfl) ⟨Nat.le_of_ble_eq_true rfl, Nat.le_of_ble_eq_true rfl⟩ (fun _ q => q.elim) (fun _ h => mw_x h) (fun _ h => h) (fun _ _ _ h _ _ => h) dX2_spansOf_7 ?_
  have z10 := pI_b (0 ≤ u ∧ u ≤ n - 1)
  refine g_if_eq S (tgt := 23) dX2_spansOf_10 (by decide) (by omega) (fun c10 => ?_) (fun c10 => ?_)
  · skip
    exact absurd c10 (by rw [pI_t (P := 0 ≤ u ∧ u ≤ n - 1) (by omega)]; decide)
  · skip
    refine g_aload_n S dX2_spansOf_13 rfl 0 rfl ?_
    refine g_iload_n S dX2_spansOf_14 rfl 1 rfl ?_
    refine g_iload_n S dX2_spansOf_15 rfl 1 rfl ?_
    refine g_iconst S dX2_spansOf_16 ?_
    refine g_callV S xK (As := [.int (iI u), .int (iI u), .int (iI 0)]) (st := []) (stk' := [.int (iI ((spS (fun x => on (302 * u + x) = 1 ∨ on (302 * u + x) = 1) 0 pg.toNat).1))]) (Wp' := MW E am 0 pg n on se al) (r := (RX2, TX2, 6)) (m_X2_spans l E hj 0 pg n on se al u u 0 (by omega) (by omega) (by omega) hpg hon) (cwV 3 S.2.2.2.2 gX2_spansOf_X2_spans rfl rfl rfl (by decide +kernel) ⟨Nat.le_of_ble_eq_true rfl, Nat.le_of_ble_eq_true rfl⟩) rfl rfl rfl rfl (Nat.le_of_ble_eq_true rfl) ⟨Nat.le_of_ble_eq_true rfl, Nat.le_of_ble_eq_true rfl⟩ (fun _ q => q.elim) (fun _ h => mw_x h) (fun _ h => h) (fun _ _ _ h _ _ => h) dX2_spansOf_17 ?_
    refine g_goto S (tgt := 28) dX2_spansOf_20 (by decide) ?_
    rw [show ((sp u).1) = ((spS (fun x => on (302 * u + x) = 1 ∨ on (302 * u + x) = 1) 0 pg.toNat).1) from (rl_spans0 hrl hsp (by omega) (by omega)).symm]
    exact g_iret S xr xlk dX2_spansOf_28 (fun _ h => h)
set_option maxHeartbeats 4000000 in
set_option maxRecDepth 100000 in
theorem m_X2_spansOfE (l : Launch) (E : EN) {am : Int → Nat} (hj : INM am) (th pg n : Int) (on se : Int → Int) (al : Int → Nat) (u : Int) (hh : u < 0 ∨ n ≤ u) (hr : -2147483648 ≤ u ∧ u ≤ 2147483647) (hn : 0 ≤ n ∧ n ≤ 24) : Met l yX2_spansOf wsX2_spansOf ({ frames := 2, cells := 0, slots := 0, locals := 43 }) (CI E [.ref (am 0), .int (iI u)] (MW E am th pg n on se al)) (QW (some (.int (iI 0))) (MW E am 1 pg n on se al) (AM am)) 0 0 (AM am) := by
  refine g_met (cc := cX2_spansOf) (maxL := 2) (ret := (some .int)) (lv := [(0, .ref (am 0)), (1, .int (iI u))]) (by decide) rfl (Nat.le_of_ble_eq_true rfl) rfl ?_
  intro xp xe xs xm xa xb xh xc S xK xr xlk xin
  have kf24 := S.2.2.2.2 (.fieldLink RX2 24 "BookIndexModel" "thrown" "I") (by decide +kernel)
  have hin2 : ∀ w ∈ wsX20, w ∈ wsX2_spansOf := by decide +kernel
  refine g_aload_n S dX2_spansOf_0 rfl 0 rfl ?_
  refine g_iconst S dX2_spansOf_1 ?_
  refine g_put S xK (Wp' := MW E am 0 pg n on se al) (ref := "BookIndexModel") (ty := .int) hin2 tyX2 tyX2_ok nmX2 0 (by decide) (show vwCl[2]? = some (RX2, TX2, 6) from rfl) kf24 (fun _ h9 => h9) rfl (by decide +kernel) rfl rfl (fun _ h => mw_x h) (Nat.le_of_ble_eq_true rfl) (am_in (by omega)) (fun _ _ h hv _ oq => mw_sX hj h hv oq) dX2_spansOf_2 ?_
  refine g_aload_n S dX2_spansOf_5 rfl 0 rfl ?_
  refine g_iload_n S dX2_spansOf_6 rfl 1 rfl ?_
  refine g_callV S xK (As := [.int (iI u)]) (st := []) (stk' := [.int (iI (pI (0 ≤ u ∧ u ≤ n - 1)))]) (Wp' := MW E am 0 pg n on se al) (r := (RX2, TX2, 6)) (m_X2_isHeading l E hj 0 pg n on se al u (by omega) hn) (cwV 1 S.2.2.2.2 gX2_spansOf_X2_isHeading rfl rfl rfl (by decide +kernel) ⟨Nat.le_of_ble_eq_true rfl, Nat.le_of_ble_eq_true rfl⟩) rfl rfl rfl rfl (Nat.le_of_ble_eq_true rfl) ⟨Nat.le_of_ble_eq_true rfl, Nat.le_of_ble_eq_true rfl⟩ (fun _ q => q.elim) (fun _ h => mw_x h) (fun _ h => h) (fun _ _ _ h _ _ => h) dX2_spansOf_7 ?_
  have z10 := pI_b (0 ≤ u ∧ u ≤ n - 1)
  refine g_if_eq S (tgt := 23) dX2_spansOf_10 (by decide) (by omega) (fun c10 => ?_) (fun c10 => ?_)
  · skip
    refine g_aload_n S dX2_spansOf_23 rfl 0 rfl ?_
    refine g_iconst S dX2_spansOf_24 ?_
    refine g_callV S xK (As := [.int (iI 1)]) (st := []) (stk' := [.int (iI 0)]) (Wp' := MW E am 1 pg n on se al) (r := (RX2, TX2, 6)) (m_X2_no l E hj 0 pg n on se al 1 ) (cwV 1 S.2.2.2.2 gX2_spansOf_X2_no rfl rfl rfl (by decide +kernel) ⟨Nat.le_of_ble_eq_true rfl, Nat.le_of_ble_eq_true rfl⟩) rfl rfl rfl rfl (Nat.le_of_ble_eq_true rfl) ⟨Nat.le_of_ble_eq_true rfl, Nat.le_of_ble_eq_true rfl⟩ (fun _ q => q) (fun _ h => mw_x h) (fun _ h => h) (fun _ _ _ h _ _ => h) dX2_spansOf_25 ?_
    exact g_iret S xr xlk dX2_spansOf_28 (fun _ h => h)
  · skip
    exact absurd c10 (fun z => z (pI_f (P := 0 ≤ u ∧ u ≤ n - 1) (by omega)))
set_option maxHeartbeats 4000000 in
set_option maxRecDepth 100000 in
theorem m_X2_pagesOf (l : Launch) (E : EN) {am : Int → Nat} (hj : INM am) (th pg n : Int) (on se : Int → Int) (al : Int → Nat) (sp : Int → SpT) (u : Int) (hh : 0 ≤ u ∧ u < n) (hn : 0 ≤ n ∧ n ≤ 24) (hpg : 1 ≤ pg ∧ pg ≤ 300) (hrl : RPS on sp n) (hsp : SPV sp n pg) (hon : ∀ k, on k = 0 ∨ on k = 1) : Met l yX2_pagesOf wsX2_pagesOf ({ frames := 2, cells := 0, slots := 0, locals := 45 }) (CI E [.ref (am 0), .int (iI u)] (MW E am th pg n on se al)) (QW (some (.int (iI (smI (fun k => on (302 * u + (k + 1))) pg.toNat)))) (MW E am 0 pg n on se al) (AM am)) 0 0 (AM am) := by
  refine g_met (cc := cX2_pagesOf) (maxL := 2) (ret := (some .int)) (lv := [(0, .ref (am 0)), (1, .int (iI u))]) (by decide) rfl (Nat.le_of_ble_eq_true rfl) rfl ?_
  intro xp xe xs xm xa xb xh xc S xK xr xlk xin
  have kf24 := S.2.2.2.2 (.fieldLink RX2 24 "BookIndexModel" "thrown" "I") (by decide +kernel)
  have hin2 : ∀ w ∈ wsX20, w ∈ wsX2_pagesOf := by decide +kernel
  refine g_aload_n S dX2_pagesOf_0 rfl 0 rfl ?_
  refine g_iconst S dX2_pagesOf_1 ?_
  refine g_put S xK (Wp' := MW E am 0 pg n on se al) (ref := "BookIndexModel") (ty := .int) hin2 tyX2 tyX2_ok nmX2 0 (by decide) (show vwCl[2]? = some (RX2, TX2, 6) from rfl) kf24 (fun _ h9 => h9) rfl (by decide +kernel) rfl rfl (fun _ h => mw_x h) (Nat.le_of_ble_eq_true rfl) (am_in (by omega)) (fun _ _ h hv _ oq => mw_sX hj h hv oq) dX2_pagesOf_2 ?_
  refine g_aload_n S dX2_pagesOf_5 rfl 0 rfl ?_
  refine g_iload_n S dX2_pagesOf_6 rfl 1 rfl ?_
  refine g_callV S xK (As := [.int (iI u)]) (st := []) (stk' := [.int (iI (pI (0 ≤ u ∧ u ≤ n - 1)))]) (Wp' := MW E am 0 pg n on se al) (r := (RX2, TX2, 6)) (m_X2_isHeading l E hj 0 pg n on se al u (by omega) hn) (cwV 1 S.2.2.2.2 gX2_pagesOf_X2_isHeading rfl rfl rfl (by decide +kernel) ⟨Nat.le_of_ble_eq_true rfl, Nat.le_of_ble_eq_true rfl⟩) rfl rfl rfl rfl (Nat.le_of_ble_eq_true rfl) ⟨Nat.le_of_ble_eq_true rfl, Nat.le_of_ble_eq_true rfl⟩ (fun _ q => q.elim) (fun _ h => mw_x h) (fun _ h => h) (fun _ _ _ h _ _ => h) dX2_pagesOf_7 ?_
  have z10 := pI_b (0 ≤ u ∧ u ≤ n - 1)
  refine g_if_eq S (tgt := 21) dX2_pagesOf_10 (by decide) (by omega) (fun c10 => ?_) (fun c10 => ?_)
  · skip
    exact absurd c10 (by rw [pI_t (P := 0 ≤ u ∧ u ≤ n - 1) (by omega)]; decide)
  · skip
    refine g_aload_n S dX2_pagesOf_13 rfl 0 rfl ?_
    refine g_iload_n S dX2_pagesOf_14 rfl 1 rfl ?_
    refine g_callV S xK (As := [.int (iI u)]) (st := []) (stk' := [.int (iI (smI (fun k => on (302 * u + (k + 1))) pg.toNat))]) (Wp' := MW E am 0 pg n on se al) (r := (RX2, TX2, 6)) (m_X2_many l E hj 0 pg n on se al u (by omega) hpg hon) (cwV 1 S.2.2.2.2 gX2_pagesOf_X2_many rfl rfl rfl (by decide +kernel) ⟨Nat.le_of_ble_eq_true rfl, Nat.le_of_ble_eq_true rfl⟩) rfl rfl rfl rfl (Nat.le_of_ble_eq_true rfl) ⟨Nat.le_of_ble_eq_true rfl, Nat.le_of_ble_eq_true rfl⟩ (fun _ q => q.elim) (fun _ h => mw_x h) (fun _ h => h) (fun _ _ _ h _ _ => h) dX2_pagesOf_15 ?_
    refine g_goto S (tgt := 26) dX2_pagesOf_18 (by decide) ?_
    exact g_iret S xr xlk dX2_pagesOf_26 (fun _ h => h)
set_option maxHeartbeats 4000000 in
set_option maxRecDepth 100000 in
theorem m_X2_pagesOfE (l : Launch) (E : EN) {am : Int → Nat} (hj : INM am) (th pg n : Int) (on se : Int → Int) (al : Int → Nat) (u : Int) (hh : u < 0 ∨ n ≤ u) (hr : -2147483648 ≤ u ∧ u ≤ 2147483647) (hn : 0 ≤ n ∧ n ≤ 24) : Met l yX2_pagesOf wsX2_pagesOf ({ frames := 2, cells := 0, slots := 0, locals := 43 }) (CI E [.ref (am 0), .int (iI u)] (MW E am th pg n on se al)) (QW (some (.int (iI 0))) (MW E am 1 pg n on se al) (AM am)) 0 0 (AM am) := by
  refine g_met (cc := cX2_pagesOf) (maxL := 2) (ret := (some .int)) (lv := [(0, .ref (am 0)), (1, .int (iI u))]) (by decide) rfl (Nat.le_of_ble_eq_true rfl) rfl ?_
  intro xp xe xs xm xa xb xh xc S xK xr xlk xin
  have kf24 := S.2.2.2.2 (.fieldLink RX2 24 "BookIndexModel" "thrown" "I") (by decide +kernel)
  have hin2 : ∀ w ∈ wsX20, w ∈ wsX2_pagesOf := by decide +kernel
  refine g_aload_n S dX2_pagesOf_0 rfl 0 rfl ?_
  refine g_iconst S dX2_pagesOf_1 ?_
  refine g_put S xK (Wp' := MW E am 0 pg n on se al) (ref := "BookIndexModel") (ty := .int) hin2 tyX2 tyX2_ok nmX2 0 (by decide) (show vwCl[2]? = some (RX2, TX2, 6) from rfl) kf24 (fun _ h9 => h9) rfl (by decide +kernel) rfl rfl (fun _ h => mw_x h) (Nat.le_of_ble_eq_true rfl) (am_in (by omega)) (fun _ _ h hv _ oq => mw_sX hj h hv oq) dX2_pagesOf_2 ?_
  refine g_aload_n S dX2_pagesOf_5 rfl 0 rfl ?_
  refine g_iload_n S dX2_pagesOf_6 rfl 1 rfl ?_
  refine g_callV S xK (As := [.int (iI u)]) (st := []) (stk' := [.int (iI (pI (0 ≤ u ∧ u ≤ n - 1)))]) (Wp' := MW E am 0 pg n on se al) (r := (RX2, TX2, 6)) (m_X2_isHeading l E hj 0 pg n on se al u (by omega) hn) (cwV 1 S.2.2.2.2 gX2_pagesOf_X2_isHeading rfl rfl rfl (by decide +kernel) ⟨Nat.le_of_ble_eq_true rfl, Nat.le_of_ble_eq_true rfl⟩) rfl rfl rfl rfl (Nat.le_of_ble_eq_true rfl) ⟨Nat.le_of_ble_eq_true rfl, Nat.le_of_ble_eq_true rfl⟩ (fun _ q => q.elim) (fun _ h => mw_x h) (fun _ h => h) (fun _ _ _ h _ _ => h) dX2_pagesOf_7 ?_
  have z10 := pI_b (0 ≤ u ∧ u ≤ n - 1)
  refine g_if_eq S (tgt := 21) dX2_pagesOf_10 (by decide) (by omega) (fun c10 => ?_) (fun c10 => ?_)
  · skip
    refine g_aload_n S dX2_pagesOf_21 rfl 0 rfl ?_
    refine g_iconst S dX2_pagesOf_22 ?_
    refine g_callV S xK (As := [.int (iI 1)]) (st := []) (stk' := [.int (iI 0)]) (Wp' := MW E am 1 pg n on se al) (r := (RX2, TX2, 6)) (m_X2_no l E hj 0 pg n on se al 1 ) (cwV 1 S.2.2.2.2 gX2_pagesOf_X2_no rfl rfl rfl (by decide +kernel) ⟨Nat.le_of_ble_eq_true rfl, Nat.le_of_ble_eq_true rfl⟩) rfl rfl rfl rfl (Nat.le_of_ble_eq_true rfl) ⟨Nat.le_of_ble_eq_true rfl, Nat.le_of_ble_eq_true rfl⟩ (fun _ q => q) (fun _ h => mw_x h) (fun _ h => h) (fun _ _ _ h _ _ => h) dX2_pagesOf_23 ?_
    exact g_iret S xr xlk dX2_pagesOf_26 (fun _ h => h)
  · skip
    exact absurd c10 (fun z => z (pI_f (P := 0 ≤ u ∧ u ≤ n - 1) (by omega)))
set_option maxHeartbeats 4000000 in
set_option maxRecDepth 100000 in
theorem m_X2_seeOf (l : Launch) (E : EN) {am : Int → Nat} (hj : INM am) (th pg n : Int) (on se : Int → Int) (al : Int → Nat) (sp : Int → SpT) (u : Int) (hh : 0 ≤ u ∧ u < n) (hn : 0 ≤ n ∧ n ≤ 24) : Met l yX2_seeOf wsX2_seeOf ({ frames := 2, cells := 0, slots := 0, locals := 43 }) (CI E [.ref (am 0), .int (iI u)] (MW E am th pg n on se al)) (QW (some (.int (iI (se u)))) (MW E am 0 pg n on se al) (AM am)) 0 0 (AM am) := by
  refine g_met (cc := cX2_seeOf) (maxL := 2) (ret := (some .int)) (lv := [(0, .ref (am 0)), (1, .int (iI u))]) (by decide) rfl (Nat.le_of_ble_eq_true rfl) rfl ?_
  intro xp xe xs xm xa xb xh xc S xK xr xlk xin
  have kf24 := S.2.2.2.2 (.fieldLink RX2 24 "BookIndexModel" "thrown" "I") (by decide +kernel)
  have kf17 := S.2.2.2.2 (.fieldLink RX2 17 "BookIndexModel" "see" "[I") (by decide +kernel)
  have hin2 : ∀ w ∈ wsX20, w ∈ wsX2_seeOf := by decide +kernel
  refine g_aload_n S dX2_seeOf_0 rfl 0 rfl ?_
  refine g_iconst S dX2_seeOf_1 ?_
  refine g_put S xK (Wp' := MW E am 0 pg n on se al) (ref := "BookIndexModel") (ty := .int) hin2 tyX2 tyX2_ok nmX2 0 (by decide) (show vwCl[2]? = some (RX2, TX2, 6) from rfl) kf24 (fun _ h9 => h9) rfl (by decide +kernel) rfl rfl (fun _ h => mw_x h) (Nat.le_of_ble_eq_true rfl) (am_in (by omega)) (fun _ _ h hv _ oq => mw_sX hj h hv oq) dX2_seeOf_2 ?_
  refine g_aload_n S dX2_seeOf_5 rfl 0 rfl ?_
  refine g_iload_n S dX2_seeOf_6 rfl 1 rfl ?_
  refine g_callV S xK (As := [.int (iI u)]) (st := []) (stk' := [.int (iI (pI (0 ≤ u ∧ u ≤ n - 1)))]) (Wp' := MW E am 0 pg n on se al) (r := (RX2, TX2, 6)) (m_X2_isHeading l E hj 0 pg n on se al u (by omega) hn) (cwV 1 S.2.2.2.2 gX2_seeOf_X2_isHeading rfl rfl rfl (by decide +kernel) ⟨Nat.le_of_ble_eq_true rfl, Nat.le_of_ble_eq_true rfl⟩) rfl rfl rfl rfl (Nat.le_of_ble_eq_true rfl) ⟨Nat.le_of_ble_eq_true rfl, Nat.le_of_ble_eq_true rfl⟩ (fun _ q => q.elim) (fun _ h => mw_x h) (fun _ h => h) (fun _ _ _ h _ _ => h) dX2_seeOf_7 ?_
  have z10 := pI_b (0 ≤ u ∧ u ≤ n - 1)
  refine g_if_eq S (tgt := 22) dX2_seeOf_10 (by decide) (by omega) (fun c10 => ?_) (fun c10 => ?_)
  · skip
    exact absurd c10 (by rw [pI_t (P := 0 ≤ u ∧ u ≤ n - 1) (by omega)]; decide)
  · skip
    refine g_aload_n S dX2_seeOf_13 rfl 0 rfl ?_
    refine g_get S xK (ref := "BookIndexModel") hin2 4 (by decide) (show vwCl[2]? = some (RX2, TX2, 6) from rfl) kf17 (fun _ h9 => h9) (fun _ h => mw_x h) rfl dX2_seeOf_14 ?_
    refine g_iload_n S dX2_seeOf_17 rfl 1 rfl ?_
    refine g_iald S xK (n := 24) (fun _ h => mw_se h) (by omega) (by decide) dX2_seeOf_18 ?_
    refine g_goto S (tgt := 27) dX2_seeOf_19 (by decide) ?_
    exact g_iret S xr xlk dX2_seeOf_27 (fun _ h => h)
set_option maxHeartbeats 4000000 in
set_option maxRecDepth 100000 in
theorem m_X2_seeOfE (l : Launch) (E : EN) {am : Int → Nat} (hj : INM am) (th pg n : Int) (on se : Int → Int) (al : Int → Nat) (u : Int) (hh : u < 0 ∨ n ≤ u) (hr : -2147483648 ≤ u ∧ u ≤ 2147483647) (hn : 0 ≤ n ∧ n ≤ 24) : Met l yX2_seeOf wsX2_seeOf ({ frames := 2, cells := 0, slots := 0, locals := 43 }) (CI E [.ref (am 0), .int (iI u)] (MW E am th pg n on se al)) (QW (some (.int (iI 0))) (MW E am 1 pg n on se al) (AM am)) 0 0 (AM am) := by
  refine g_met (cc := cX2_seeOf) (maxL := 2) (ret := (some .int)) (lv := [(0, .ref (am 0)), (1, .int (iI u))]) (by decide) rfl (Nat.le_of_ble_eq_true rfl) rfl ?_
  intro xp xe xs xm xa xb xh xc S xK xr xlk xin
  have kf24 := S.2.2.2.2 (.fieldLink RX2 24 "BookIndexModel" "thrown" "I") (by decide +kernel)
  have hin2 : ∀ w ∈ wsX20, w ∈ wsX2_seeOf := by decide +kernel
  refine g_aload_n S dX2_seeOf_0 rfl 0 rfl ?_
  refine g_iconst S dX2_seeOf_1 ?_
  refine g_put S xK (Wp' := MW E am 0 pg n on se al) (ref := "BookIndexModel") (ty := .int) hin2 tyX2 tyX2_ok nmX2 0 (by decide) (show vwCl[2]? = some (RX2, TX2, 6) from rfl) kf24 (fun _ h9 => h9) rfl (by decide +kernel) rfl rfl (fun _ h => mw_x h) (Nat.le_of_ble_eq_true rfl) (am_in (by omega)) (fun _ _ h hv _ oq => mw_sX hj h hv oq) dX2_seeOf_2 ?_
  refine g_aload_n S dX2_seeOf_5 rfl 0 rfl ?_
  refine g_iload_n S dX2_seeOf_6 rfl 1 rfl ?_
  refine g_callV S xK (As := [.int (iI u)]) (st := []) (stk' := [.int (iI (pI (0 ≤ u ∧ u ≤ n - 1)))]) (Wp' := MW E am 0 pg n on se al) (r := (RX2, TX2, 6)) (m_X2_isHeading l E hj 0 pg n on se al u (by omega) hn) (cwV 1 S.2.2.2.2 gX2_seeOf_X2_isHeading rfl rfl rfl (by decide +kernel) ⟨Nat.le_of_ble_eq_true rfl, Nat.le_of_ble_eq_true rfl⟩) rfl rfl rfl rfl (Nat.le_of_ble_eq_true rfl) ⟨Nat.le_of_ble_eq_true rfl, Nat.le_of_ble_eq_true rfl⟩ (fun _ q => q.elim) (fun _ h => mw_x h) (fun _ h => h) (fun _ _ _ h _ _ => h) dX2_seeOf_7 ?_
  have z10 := pI_b (0 ≤ u ∧ u ≤ n - 1)
  refine g_if_eq S (tgt := 22) dX2_seeOf_10 (by decide) (by omega) (fun c10 => ?_) (fun c10 => ?_)
  · skip
    refine g_aload_n S dX2_seeOf_22 rfl 0 rfl ?_
    refine g_iconst S dX2_seeOf_23 ?_
    refine g_callV S xK (As := [.int (iI 1)]) (st := []) (stk' := [.int (iI 0)]) (Wp' := MW E am 1 pg n on se al) (r := (RX2, TX2, 6)) (m_X2_no l E hj 0 pg n on se al 1 ) (cwV 1 S.2.2.2.2 gX2_seeOf_X2_no rfl rfl rfl (by decide +kernel) ⟨Nat.le_of_ble_eq_true rfl, Nat.le_of_ble_eq_true rfl⟩) rfl rfl rfl rfl (Nat.le_of_ble_eq_true rfl) ⟨Nat.le_of_ble_eq_true rfl, Nat.le_of_ble_eq_true rfl⟩ (fun _ q => q) (fun _ h => mw_x h) (fun _ h => h) (fun _ _ _ h _ _ => h) dX2_seeOf_24 ?_
    exact g_iret S xr xlk dX2_seeOf_27 (fun _ h => h)
  · skip
    exact absurd c10 (fun z => z (pI_f (P := 0 ≤ u ∧ u ≤ n - 1) (by omega)))
set_option maxHeartbeats 4000000 in
set_option maxRecDepth 100000 in
theorem m_X2_seeAlsosOf (l : Launch) (E : EN) {am : Int → Nat} (hj : INM am) (th pg n : Int) (on se : Int → Int) (al : Int → Nat) (sp : Int → SpT) (u : Int) (hh : 0 ≤ u ∧ u < n) (hn : 0 ≤ n ∧ n ≤ 24) (hgr : GR se al n) : Met l yX2_seeAlsosOf wsX2_seeAlsosOf ({ frames := 2, cells := 0, slots := 0, locals := 43 }) (CI E [.ref (am 0), .int (iI u)] (MW E am th pg n on se al)) (QW (some (.int (iI ((pop (al u) 24 : Nat) : Int)))) (MW E am 0 pg n on se al) (AM am)) 0 0 (AM am) := by
  refine g_met (cc := cX2_seeAlsosOf) (maxL := 2) (ret := (some .int)) (lv := [(0, .ref (am 0)), (1, .int (iI u))]) (by decide) rfl (Nat.le_of_ble_eq_true rfl) rfl ?_
  intro xp xe xs xm xa xb xh xc S xK xr xlk xin
  have kf24 := S.2.2.2.2 (.fieldLink RX2 24 "BookIndexModel" "thrown" "I") (by decide +kernel)
  have kf21 := S.2.2.2.2 (.fieldLink RX2 21 "BookIndexModel" "also" "[I") (by decide +kernel)
  have hin2 : ∀ w ∈ wsX20, w ∈ wsX2_seeAlsosOf := by decide +kernel
  refine g_aload_n S dX2_seeAlsosOf_0 rfl 0 rfl ?_
  refine g_iconst S dX2_seeAlsosOf_1 ?_
  refine g_put S xK (Wp' := MW E am 0 pg n on se al) (ref := "BookIndexModel") (ty := .int) hin2 tyX2 tyX2_ok nmX2 0 (by decide) (show vwCl[2]? = some (RX2, TX2, 6) from rfl) kf24 (fun _ h9 => h9) rfl (by decide +kernel) rfl rfl (fun _ h => mw_x h) (Nat.le_of_ble_eq_true rfl) (am_in (by omega)) (fun _ _ h hv _ oq => mw_sX hj h hv oq) dX2_seeAlsosOf_2 ?_
  refine g_aload_n S dX2_seeAlsosOf_5 rfl 0 rfl ?_
  refine g_iload_n S dX2_seeAlsosOf_6 rfl 1 rfl ?_
  refine g_callV S xK (As := [.int (iI u)]) (st := []) (stk' := [.int (iI (pI (0 ≤ u ∧ u ≤ n - 1)))]) (Wp' := MW E am 0 pg n on se al) (r := (RX2, TX2, 6)) (m_X2_isHeading l E hj 0 pg n on se al u (by omega) hn) (cwV 1 S.2.2.2.2 gX2_seeAlsosOf_X2_isHeading rfl rfl rfl (by decide +kernel) ⟨Nat.le_of_ble_eq_true rfl, Nat.le_of_ble_eq_true rfl⟩) rfl rfl rfl rfl (Nat.le_of_ble_eq_true rfl) ⟨Nat.le_of_ble_eq_true rfl, Nat.le_of_ble_eq_true rfl⟩ (fun _ q => q.elim) (fun _ h => mw_x h) (fun _ h => h) (fun _ _ _ h _ _ => h) dX2_seeAlsosOf_7 ?_
  have z10 := pI_b (0 ≤ u ∧ u ≤ n - 1)
  refine g_if_eq S (tgt := 25) dX2_seeAlsosOf_10 (by decide) (by omega) (fun c10 => ?_) (fun c10 => ?_)
  · skip
    exact absurd c10 (by rw [pI_t (P := 0 ≤ u ∧ u ≤ n - 1) (by omega)]; decide)
  · skip
    refine g_aload_n S dX2_seeAlsosOf_13 rfl 0 rfl ?_
    refine g_get S xK (ref := "BookIndexModel") hin2 5 (by decide) (show vwCl[2]? = some (RX2, TX2, 6) from rfl) kf21 (fun _ h9 => h9) (fun _ h => mw_x h) rfl dX2_seeAlsosOf_14 ?_
    refine g_iload_n S dX2_seeAlsosOf_17 rfl 1 rfl ?_
    refine g_iald S xK (n := 24) (fun _ h => mw_al h) (by omega) (by decide) dX2_seeAlsosOf_18 ?_
    refine g_callS S xK (As := [.int (iI ((al u : Nat) : Int))]) (st := []) (stk' := [.int (iI ((pop (al u) 24 : Nat) : Int))]) (Wp' := MW E am 0 pg n on se al) (m_J6_bitCount_0f7a4 l E (MW E am 0 pg n on se al) (al u) (lt24 hn (hgr.2 u (by omega) (by omega)))) (va_cwS 1 S.2.2.2.2 gX2_seeAlsosOf_J6_bitCount_0f7a4 rfl rfl rfl (by decide +kernel) ⟨Nat.le_of_ble_eq_true rfl, Nat.le_of_ble_eq_true rfl⟩) rfl rfl rfl (Nat.le_of_ble_eq_true rfl) ⟨Nat.le_of_ble_eq_true rfl, Nat.le_of_ble_eq_true rfl⟩ (fun _ q => q.elim) (fun _ h => h) (fun _ _ _ h _ _ => h) dX2_seeAlsosOf_19 ?_
    refine g_goto S (tgt := 30) dX2_seeAlsosOf_22 (by decide) ?_
    exact g_iret S xr xlk dX2_seeAlsosOf_30 (fun _ h => h)
set_option maxHeartbeats 4000000 in
set_option maxRecDepth 100000 in
theorem m_X2_seeAlsosOfE (l : Launch) (E : EN) {am : Int → Nat} (hj : INM am) (th pg n : Int) (on se : Int → Int) (al : Int → Nat) (u : Int) (hh : u < 0 ∨ n ≤ u) (hr : -2147483648 ≤ u ∧ u ≤ 2147483647) (hn : 0 ≤ n ∧ n ≤ 24) : Met l yX2_seeAlsosOf wsX2_seeAlsosOf ({ frames := 2, cells := 0, slots := 0, locals := 43 }) (CI E [.ref (am 0), .int (iI u)] (MW E am th pg n on se al)) (QW (some (.int (iI 0))) (MW E am 1 pg n on se al) (AM am)) 0 0 (AM am) := by
  refine g_met (cc := cX2_seeAlsosOf) (maxL := 2) (ret := (some .int)) (lv := [(0, .ref (am 0)), (1, .int (iI u))]) (by decide) rfl (Nat.le_of_ble_eq_true rfl) rfl ?_
  intro xp xe xs xm xa xb xh xc S xK xr xlk xin
  have kf24 := S.2.2.2.2 (.fieldLink RX2 24 "BookIndexModel" "thrown" "I") (by decide +kernel)
  have hin2 : ∀ w ∈ wsX20, w ∈ wsX2_seeAlsosOf := by decide +kernel
  refine g_aload_n S dX2_seeAlsosOf_0 rfl 0 rfl ?_
  refine g_iconst S dX2_seeAlsosOf_1 ?_
  refine g_put S xK (Wp' := MW E am 0 pg n on se al) (ref := "BookIndexModel") (ty := .int) hin2 tyX2 tyX2_ok nmX2 0 (by decide) (show vwCl[2]? = some (RX2, TX2, 6) from rfl) kf24 (fun _ h9 => h9) rfl (by decide +kernel) rfl rfl (fun _ h => mw_x h) (Nat.le_of_ble_eq_true rfl) (am_in (by omega)) (fun _ _ h hv _ oq => mw_sX hj h hv oq) dX2_seeAlsosOf_2 ?_
  refine g_aload_n S dX2_seeAlsosOf_5 rfl 0 rfl ?_
  refine g_iload_n S dX2_seeAlsosOf_6 rfl 1 rfl ?_
  refine g_callV S xK (As := [.int (iI u)]) (st := []) (stk' := [.int (iI (pI (0 ≤ u ∧ u ≤ n - 1)))]) (Wp' := MW E am 0 pg n on se al) (r := (RX2, TX2, 6)) (m_X2_isHeading l E hj 0 pg n on se al u (by omega) hn) (cwV 1 S.2.2.2.2 gX2_seeAlsosOf_X2_isHeading rfl rfl rfl (by decide +kernel) ⟨Nat.le_of_ble_eq_true rfl, Nat.le_of_ble_eq_true rfl⟩) rfl rfl rfl rfl (Nat.le_of_ble_eq_true rfl) ⟨Nat.le_of_ble_eq_true rfl, Nat.le_of_ble_eq_true rfl⟩ (fun _ q => q.elim) (fun _ h => mw_x h) (fun _ h => h) (fun _ _ _ h _ _ => h) dX2_seeAlsosOf_7 ?_
  have z10 := pI_b (0 ≤ u ∧ u ≤ n - 1)
  refine g_if_eq S (tgt := 25) dX2_seeAlsosOf_10 (by decide) (by omega) (fun c10 => ?_) (fun c10 => ?_)
  · skip
    refine g_aload_n S dX2_seeAlsosOf_25 rfl 0 rfl ?_
    refine g_iconst S dX2_seeAlsosOf_26 ?_
    refine g_callV S xK (As := [.int (iI 1)]) (st := []) (stk' := [.int (iI 0)]) (Wp' := MW E am 1 pg n on se al) (r := (RX2, TX2, 6)) (m_X2_no l E hj 0 pg n on se al 1 ) (cwV 1 S.2.2.2.2 gX2_seeAlsosOf_X2_no rfl rfl rfl (by decide +kernel) ⟨Nat.le_of_ble_eq_true rfl, Nat.le_of_ble_eq_true rfl⟩) rfl rfl rfl rfl (Nat.le_of_ble_eq_true rfl) ⟨Nat.le_of_ble_eq_true rfl, Nat.le_of_ble_eq_true rfl⟩ (fun _ q => q) (fun _ h => mw_x h) (fun _ h => h) (fun _ _ _ h _ _ => h) dX2_seeAlsosOf_27 ?_
    exact g_iret S xr xlk dX2_seeAlsosOf_30 (fun _ h => h)
  · skip
    exact absurd c10 (fun z => z (pI_f (P := 0 ≤ u ∧ u ≤ n - 1) (by omega)))
set_option maxHeartbeats 4000000 in
set_option maxRecDepth 100000 in
theorem m_X2_leadsTo (l : Launch) (E : EN) {am : Int → Nat} (hj : INM am) (th pg n : Int) (on se : Int → Int) (al : Int → Nat) (sp : Int → SpT) (u : Int) (hh : 0 ≤ u ∧ u < n) (hn : 0 ≤ n ∧ n ≤ 24) (hgr : GR se al n) : Met l yX2_leadsTo wsX2_leadsTo ({ frames := 2, cells := 0, slots := 0, locals := 43 }) (CI E [.ref (am 0), .int (iI u)] (MW E am th pg n on se al)) (QW (some (.int (iI (eS se n.toNat u)))) (MW E am 0 pg n on se al) (AM am)) 0 0 (AM am) := by
  refine g_met (cc := cX2_leadsTo) (maxL := 2) (ret := (some .int)) (lv := [(0, .ref (am 0)), (1, .int (iI u))]) (by decide) rfl (Nat.le_of_ble_eq_true rfl) rfl ?_
  intro xp xe xs xm xa xb xh xc S xK xr xlk xin
  have kf24 := S.2.2.2.2 (.fieldLink RX2 24 "BookIndexModel" "thrown" "I") (by decide +kernel)
  have hin2 : ∀ w ∈ wsX20, w ∈ wsX2_leadsTo := by decide +kernel
  refine g_aload_n S dX2_leadsTo_0 rfl 0 rfl ?_
  refine g_iconst S dX2_leadsTo_1 ?_
  refine g_put S xK (Wp' := MW E am 0 pg n on se al) (ref := "BookIndexModel") (ty := .int) hin2 tyX2 tyX2_ok nmX2 0 (by decide) (show vwCl[2]? = some (RX2, TX2, 6) from rfl) kf24 (fun _ h9 => h9) rfl (by decide +kernel) rfl rfl (fun _ h => mw_x h) (Nat.le_of_ble_eq_true rfl) (am_in (by omega)) (fun _ _ h hv _ oq => mw_sX hj h hv oq) dX2_leadsTo_2 ?_
  refine g_aload_n S dX2_leadsTo_5 rfl 0 rfl ?_
  refine g_iload_n S dX2_leadsTo_6 rfl 1 rfl ?_
  refine g_callV S xK (As := [.int (iI u)]) (st := []) (stk' := [.int (iI (pI (0 ≤ u ∧ u ≤ n - 1)))]) (Wp' := MW E am 0 pg n on se al) (r := (RX2, TX2, 6)) (m_X2_isHeading l E hj 0 pg n on se al u (by omega) hn) (cwV 1 S.2.2.2.2 gX2_leadsTo_X2_isHeading rfl rfl rfl (by decide +kernel) ⟨Nat.le_of_ble_eq_true rfl, Nat.le_of_ble_eq_true rfl⟩) rfl rfl rfl rfl (Nat.le_of_ble_eq_true rfl) ⟨Nat.le_of_ble_eq_true rfl, Nat.le_of_ble_eq_true rfl⟩ (fun _ q => q.elim) (fun _ h => mw_x h) (fun _ h => h) (fun _ _ _ h _ _ => h) dX2_leadsTo_7 ?_
  have z10 := pI_b (0 ≤ u ∧ u ≤ n - 1)
  refine g_if_eq S (tgt := 21) dX2_leadsTo_10 (by decide) (by omega) (fun c10 => ?_) (fun c10 => ?_)
  · skip
    exact absurd c10 (by rw [pI_t (P := 0 ≤ u ∧ u ≤ n - 1) (by omega)]; decide)
  · skip
    refine g_aload_n S dX2_leadsTo_13 rfl 0 rfl ?_
    refine g_iload_n S dX2_leadsTo_14 rfl 1 rfl ?_
    refine g_callV S xK (As := [.int (iI u)]) (st := []) (stk' := [.int (iI (eS se (n + 1).toNat u))]) (Wp' := MW E am 0 pg n on se al) (r := (RX2, TX2, 6)) (m_X2_end l E hj 0 pg n on se al u (by omega) hn hgr) (cwV 1 S.2.2.2.2 gX2_leadsTo_X2_end rfl rfl rfl (by decide +kernel) ⟨Nat.le_of_ble_eq_true rfl, Nat.le_of_ble_eq_true rfl⟩) rfl rfl rfl rfl (Nat.le_of_ble_eq_true rfl) ⟨Nat.le_of_ble_eq_true rfl, Nat.le_of_ble_eq_true rfl⟩ (fun _ q => q.elim) (fun _ h => mw_x h) (fun _ h => h) (fun _ _ _ h _ _ => h) dX2_leadsTo_15 ?_
    refine g_goto S (tgt := 26) dX2_leadsTo_18 (by decide) ?_
    rw [show (eS se n.toNat u) = (eS se (n + 1).toNat u) from (eS_one hn hgr.1 (by omega)).symm]
    exact g_iret S xr xlk dX2_leadsTo_26 (fun _ h => h)
set_option maxHeartbeats 4000000 in
set_option maxRecDepth 100000 in
theorem m_X2_leadsToE (l : Launch) (E : EN) {am : Int → Nat} (hj : INM am) (th pg n : Int) (on se : Int → Int) (al : Int → Nat) (u : Int) (hh : u < 0 ∨ n ≤ u) (hr : -2147483648 ≤ u ∧ u ≤ 2147483647) (hn : 0 ≤ n ∧ n ≤ 24) : Met l yX2_leadsTo wsX2_leadsTo ({ frames := 2, cells := 0, slots := 0, locals := 43 }) (CI E [.ref (am 0), .int (iI u)] (MW E am th pg n on se al)) (QW (some (.int (iI 0))) (MW E am 1 pg n on se al) (AM am)) 0 0 (AM am) := by
  refine g_met (cc := cX2_leadsTo) (maxL := 2) (ret := (some .int)) (lv := [(0, .ref (am 0)), (1, .int (iI u))]) (by decide) rfl (Nat.le_of_ble_eq_true rfl) rfl ?_
  intro xp xe xs xm xa xb xh xc S xK xr xlk xin
  have kf24 := S.2.2.2.2 (.fieldLink RX2 24 "BookIndexModel" "thrown" "I") (by decide +kernel)
  have hin2 : ∀ w ∈ wsX20, w ∈ wsX2_leadsTo := by decide +kernel
  refine g_aload_n S dX2_leadsTo_0 rfl 0 rfl ?_
  refine g_iconst S dX2_leadsTo_1 ?_
  refine g_put S xK (Wp' := MW E am 0 pg n on se al) (ref := "BookIndexModel") (ty := .int) hin2 tyX2 tyX2_ok nmX2 0 (by decide) (show vwCl[2]? = some (RX2, TX2, 6) from rfl) kf24 (fun _ h9 => h9) rfl (by decide +kernel) rfl rfl (fun _ h => mw_x h) (Nat.le_of_ble_eq_true rfl) (am_in (by omega)) (fun _ _ h hv _ oq => mw_sX hj h hv oq) dX2_leadsTo_2 ?_
  refine g_aload_n S dX2_leadsTo_5 rfl 0 rfl ?_
  refine g_iload_n S dX2_leadsTo_6 rfl 1 rfl ?_
  refine g_callV S xK (As := [.int (iI u)]) (st := []) (stk' := [.int (iI (pI (0 ≤ u ∧ u ≤ n - 1)))]) (Wp' := MW E am 0 pg n on se al) (r := (RX2, TX2, 6)) (m_X2_isHeading l E hj 0 pg n on se al u (by omega) hn) (cwV 1 S.2.2.2.2 gX2_leadsTo_X2_isHeading rfl rfl rfl (by decide +kernel) ⟨Nat.le_of_ble_eq_true rfl, Nat.le_of_ble_eq_true rfl⟩) rfl rfl rfl rfl (Nat.le_of_ble_eq_true rfl) ⟨Nat.le_of_ble_eq_true rfl, Nat.le_of_ble_eq_true rfl⟩ (fun _ q => q.elim) (fun _ h => mw_x h) (fun _ h => h) (fun _ _ _ h _ _ => h) dX2_leadsTo_7 ?_
  have z10 := pI_b (0 ≤ u ∧ u ≤ n - 1)
  refine g_if_eq S (tgt := 21) dX2_leadsTo_10 (by decide) (by omega) (fun c10 => ?_) (fun c10 => ?_)
  · skip
    refine g_aload_n S dX2_leadsTo_21 rfl 0 rfl ?_
    refine g_iconst S dX2_leadsTo_22 ?_
    refine g_callV S xK (As := [.int (iI 1)]) (st := []) (stk' := [.int (iI 0)]) (Wp' := MW E am 1 pg n on se al) (r := (RX2, TX2, 6)) (m_X2_no l E hj 0 pg n on se al 1 ) (cwV 1 S.2.2.2.2 gX2_leadsTo_X2_no rfl rfl rfl (by decide +kernel) ⟨Nat.le_of_ble_eq_true rfl, Nat.le_of_ble_eq_true rfl⟩) rfl rfl rfl rfl (Nat.le_of_ble_eq_true rfl) ⟨Nat.le_of_ble_eq_true rfl, Nat.le_of_ble_eq_true rfl⟩ (fun _ q => q) (fun _ h => mw_x h) (fun _ h => h) (fun _ _ _ h _ _ => h) dX2_leadsTo_23 ?_
    exact g_iret S xr xlk dX2_leadsTo_26 (fun _ h => h)
  · skip
    exact absurd c10 (fun z => z (pI_f (P := 0 ≤ u ∧ u ≤ n - 1) (by omega)))
set_option maxHeartbeats 4000000 in
set_option maxRecDepth 100000 in
theorem m_X2_reachOf (l : Launch) (E : EN) {am : Int → Nat} (hj : INM am) (th pg n : Int) (on se : Int → Int) (al : Int → Nat) (sp : Int → SpT) (u : Int) (hh : 0 ≤ u ∧ u < n) (hn : 0 ≤ n ∧ n ≤ 24) (hgr : GR se al n) : Met l yX2_reachOf wsX2_reachOf ({ frames := 2, cells := 0, slots := 0, locals := 45 }) (CI E [.ref (am 0), .int (iI u)] (MW E am th pg n on se al)) (QW (some (.int (iI ((pop (itS se al n 24 (2 ^ u.toNat)) 24 : Nat) : Int)))) (MW E am 0 pg n on se al) (AM am)) 0 0 (AM am) := by
  refine g_met (cc := cX2_reachOf) (maxL := 2) (ret := (some .int)) (lv := [(0, .ref (am 0)), (1, .int (iI u))]) (by decide) rfl (Nat.le_of_ble_eq_true rfl) rfl ?_
  intro xp xe xs xm xa xb xh xc S xK xr xlk xin
  have kf24 := S.2.2.2.2 (.fieldLink RX2 24 "BookIndexModel" "thrown" "I") (by decide +kernel)
  have hin2 : ∀ w ∈ wsX20, w ∈ wsX2_reachOf := by decide +kernel
  refine g_aload_n S dX2_reachOf_0 rfl 0 rfl ?_
  refine g_iconst S dX2_reachOf_1 ?_
  refine g_put S xK (Wp' := MW E am 0 pg n on se al) (ref := "BookIndexModel") (ty := .int) hin2 tyX2 tyX2_ok nmX2 0 (by decide) (show vwCl[2]? = some (RX2, TX2, 6) from rfl) kf24 (fun _ h9 => h9) rfl (by decide +kernel) rfl rfl (fun _ h => mw_x h) (Nat.le_of_ble_eq_true rfl) (am_in (by omega)) (fun _ _ h hv _ oq => mw_sX hj h hv oq) dX2_reachOf_2 ?_
  refine g_aload_n S dX2_reachOf_5 rfl 0 rfl ?_
  refine g_iload_n S dX2_reachOf_6 rfl 1 rfl ?_
  refine g_callV S xK (As := [.int (iI u)]) (st := []) (stk' := [.int (iI (pI (0 ≤ u ∧ u ≤ n - 1)))]) (Wp' := MW E am 0 pg n on se al) (r := (RX2, TX2, 6)) (m_X2_isHeading l E hj 0 pg n on se al u (by omega) hn) (cwV 1 S.2.2.2.2 gX2_reachOf_X2_isHeading rfl rfl rfl (by decide +kernel) ⟨Nat.le_of_ble_eq_true rfl, Nat.le_of_ble_eq_true rfl⟩) rfl rfl rfl rfl (Nat.le_of_ble_eq_true rfl) ⟨Nat.le_of_ble_eq_true rfl, Nat.le_of_ble_eq_true rfl⟩ (fun _ q => q.elim) (fun _ h => mw_x h) (fun _ h => h) (fun _ _ _ h _ _ => h) dX2_reachOf_7 ?_
  have z10 := pI_b (0 ≤ u ∧ u ≤ n - 1)
  refine g_if_eq S (tgt := 26) dX2_reachOf_10 (by decide) (by omega) (fun c10 => ?_) (fun c10 => ?_)
  · skip
    exact absurd c10 (by rw [pI_t (P := 0 ≤ u ∧ u ≤ n - 1) (by omega)]; decide)
  · skip
    have h1l : 2 ^ u.toNat < 2 ^ n.toNat := Nat.pow_lt_pow_right (by decide) (by omega)
    refine g_aload_n S dX2_reachOf_13 rfl 0 rfl ?_
    refine g_iconst S dX2_reachOf_14 ?_
    refine g_iload_n S dX2_reachOf_15 rfl 1 rfl ?_
    refine g_ishl S (z := (iI ((2 ^ u.toNat : Nat) : Int))) dX2_reachOf_16 (iI_shl1 (by omega)) ?_
    refine g_callV S xK (As := [.int (iI ((2 ^ u.toNat : Nat) : Int))]) (st := []) (stk' := [.int (iI ((itS se al n 24 (2 ^ u.toNat) : Nat) : Int))]) (Wp' := MW E am 0 pg n on se al) (r := (RX2, TX2, 6)) (m_X2_all l E hj 0 pg n on se al (2 ^ u.toNat) h1l hn hgr) (cwV 1 S.2.2.2.2 gX2_reachOf_X2_all rfl rfl rfl (by decide +kernel) ⟨Nat.le_of_ble_eq_true rfl, Nat.le_of_ble_eq_true rfl⟩) rfl rfl rfl rfl (Nat.le_of_ble_eq_true rfl) ⟨Nat.le_of_ble_eq_true rfl, Nat.le_of_ble_eq_true rfl⟩ (fun _ q => q.elim) (fun _ h => mw_x h) (fun _ h => h) (fun _ _ _ h _ _ => h) dX2_reachOf_17 ?_
    refine g_callS S xK (As := [.int (iI ((itS se al n 24 (2 ^ u.toNat) : Nat) : Int))]) (st := []) (stk' := [.int (iI ((pop (itS se al n 24 (2 ^ u.toNat)) 24 : Nat) : Int))]) (Wp' := MW E am 0 pg n on se al) (m_J6_bitCount_0f7a4 l E (MW E am 0 pg n on se al) (itS se al n 24 (2 ^ u.toNat)) (lt24 hn (itS_lt hgr hn.1 24 _ h1l))) (va_cwS 1 S.2.2.2.2 gX2_reachOf_J6_bitCount_0f7a4 rfl rfl rfl (by decide +kernel) ⟨Nat.le_of_ble_eq_true rfl, Nat.le_of_ble_eq_true rfl⟩) rfl rfl rfl (Nat.le_of_ble_eq_true rfl) ⟨Nat.le_of_ble_eq_true rfl, Nat.le_of_ble_eq_true rfl⟩ (fun _ q => q.elim) (fun _ h => h) (fun _ _ _ h _ _ => h) dX2_reachOf_20 ?_
    refine g_goto S (tgt := 31) dX2_reachOf_23 (by decide) ?_
    exact g_iret S xr xlk dX2_reachOf_31 (fun _ h => h)
set_option maxHeartbeats 4000000 in
set_option maxRecDepth 100000 in
theorem m_X2_reachOfE (l : Launch) (E : EN) {am : Int → Nat} (hj : INM am) (th pg n : Int) (on se : Int → Int) (al : Int → Nat) (u : Int) (hh : u < 0 ∨ n ≤ u) (hr : -2147483648 ≤ u ∧ u ≤ 2147483647) (hn : 0 ≤ n ∧ n ≤ 24) : Met l yX2_reachOf wsX2_reachOf ({ frames := 2, cells := 0, slots := 0, locals := 43 }) (CI E [.ref (am 0), .int (iI u)] (MW E am th pg n on se al)) (QW (some (.int (iI 0))) (MW E am 1 pg n on se al) (AM am)) 0 0 (AM am) := by
  refine g_met (cc := cX2_reachOf) (maxL := 2) (ret := (some .int)) (lv := [(0, .ref (am 0)), (1, .int (iI u))]) (by decide) rfl (Nat.le_of_ble_eq_true rfl) rfl ?_
  intro xp xe xs xm xa xb xh xc S xK xr xlk xin
  have kf24 := S.2.2.2.2 (.fieldLink RX2 24 "BookIndexModel" "thrown" "I") (by decide +kernel)
  have hin2 : ∀ w ∈ wsX20, w ∈ wsX2_reachOf := by decide +kernel
  refine g_aload_n S dX2_reachOf_0 rfl 0 rfl ?_
  refine g_iconst S dX2_reachOf_1 ?_
  refine g_put S xK (Wp' := MW E am 0 pg n on se al) (ref := "BookIndexModel") (ty := .int) hin2 tyX2 tyX2_ok nmX2 0 (by decide) (show vwCl[2]? = some (RX2, TX2, 6) from rfl) kf24 (fun _ h9 => h9) rfl (by decide +kernel) rfl rfl (fun _ h => mw_x h) (Nat.le_of_ble_eq_true rfl) (am_in (by omega)) (fun _ _ h hv _ oq => mw_sX hj h hv oq) dX2_reachOf_2 ?_
  refine g_aload_n S dX2_reachOf_5 rfl 0 rfl ?_
  refine g_iload_n S dX2_reachOf_6 rfl 1 rfl ?_
  refine g_callV S xK (As := [.int (iI u)]) (st := []) (stk' := [.int (iI (pI (0 ≤ u ∧ u ≤ n - 1)))]) (Wp' := MW E am 0 pg n on se al) (r := (RX2, TX2, 6)) (m_X2_isHeading l E hj 0 pg n on se al u (by omega) hn) (cwV 1 S.2.2.2.2 gX2_reachOf_X2_isHeading rfl rfl rfl (by decide +kernel) ⟨Nat.le_of_ble_eq_true rfl, Nat.le_of_ble_eq_true rfl⟩) rfl rfl rfl rfl (Nat.le_of_ble_eq_true rfl) ⟨Nat.le_of_ble_eq_true rfl, Nat.le_of_ble_eq_true rfl⟩ (fun _ q => q.elim) (fun _ h => mw_x h) (fun _ h => h) (fun _ _ _ h _ _ => h) dX2_reachOf_7 ?_
  have z10 := pI_b (0 ≤ u ∧ u ≤ n - 1)
  refine g_if_eq S (tgt := 26) dX2_reachOf_10 (by decide) (by omega) (fun c10 => ?_) (fun c10 => ?_)
  · skip
    refine g_aload_n S dX2_reachOf_26 rfl 0 rfl ?_
    refine g_iconst S dX2_reachOf_27 ?_
    refine g_callV S xK (As := [.int (iI 1)]) (st := []) (stk' := [.int (iI 0)]) (Wp' := MW E am 1 pg n on se al) (r := (RX2, TX2, 6)) (m_X2_no l E hj 0 pg n on se al 1 ) (cwV 1 S.2.2.2.2 gX2_reachOf_X2_no rfl rfl rfl (by decide +kernel) ⟨Nat.le_of_ble_eq_true rfl, Nat.le_of_ble_eq_true rfl⟩) rfl rfl rfl rfl (Nat.le_of_ble_eq_true rfl) ⟨Nat.le_of_ble_eq_true rfl, Nat.le_of_ble_eq_true rfl⟩ (fun _ q => q) (fun _ h => mw_x h) (fun _ h => h) (fun _ _ _ h _ _ => h) dX2_reachOf_28 ?_
    exact g_iret S xr xlk dX2_reachOf_31 (fun _ h => h)
  · skip
    exact absurd c10 (fun z => z (pI_f (P := 0 ≤ u ∧ u ≤ n - 1) (by omega)))
set_option maxHeartbeats 4000000 in
set_option maxRecDepth 100000 in
theorem m_X2_isInRing (l : Launch) (E : EN) {am : Int → Nat} (hj : INM am) (th pg n : Int) (on se : Int → Int) (al : Int → Nat) (sp : Int → SpT) (u : Int) (hh : 0 ≤ u ∧ u < n) (hn : 0 ≤ n ∧ n ≤ 24) (hgr : GR se al n) : Met l yX2_isInRing wsX2_isInRing ({ frames := 3, cells := 0, slots := 0, locals := 66 }) (CI E [.ref (am 0), .int (iI u)] (MW E am th pg n on se al)) (QW (some (.int (iI (pI ((itS se al n 24 (stS se al (2 ^ u.toNat) n.toNat)).testBit u.toNat = true))))) (MW E am 0 pg n on se al) (AM am)) 0 0 (AM am) := by
  refine g_met (cc := cX2_isInRing) (maxL := 2) (ret := (some .boolean)) (lv := [(0, .ref (am 0)), (1, .int (iI u))]) (by decide) rfl (Nat.le_of_ble_eq_true rfl) rfl ?_
  intro xp xe xs xm xa xb xh xc S xK xr xlk xin
  have kf24 := S.2.2.2.2 (.fieldLink RX2 24 "BookIndexModel" "thrown" "I") (by decide +kernel)
  have hin2 : ∀ w ∈ wsX20, w ∈ wsX2_isInRing := by decide +kernel
  refine g_aload_n S dX2_isInRing_0 rfl 0 rfl ?_
  refine g_iconst S dX2_isInRing_1 ?_
  refine g_put S xK (Wp' := MW E am 0 pg n on se al) (ref := "BookIndexModel") (ty := .int) hin2 tyX2 tyX2_ok nmX2 0 (by decide) (show vwCl[2]? = some (RX2, TX2, 6) from rfl) kf24 (fun _ h9 => h9) rfl (by decide +kernel) rfl rfl (fun _ h => mw_x h) (Nat.le_of_ble_eq_true rfl) (am_in (by omega)) (fun _ _ h hv _ oq => mw_sX hj h hv oq) dX2_isInRing_2 ?_
  refine g_aload_n S dX2_isInRing_5 rfl 0 rfl ?_
  refine g_iload_n S dX2_isInRing_6 rfl 1 rfl ?_
  refine g_callV S xK (As := [.int (iI u)]) (st := []) (stk' := [.int (iI (pI (0 ≤ u ∧ u ≤ n - 1)))]) (Wp' := MW E am 0 pg n on se al) (r := (RX2, TX2, 6)) (m_X2_isHeading l E hj 0 pg n on se al u (by omega) hn) (cwV 1 S.2.2.2.2 gX2_isInRing_X2_isHeading rfl rfl rfl (by decide +kernel) ⟨Nat.le_of_ble_eq_true rfl, Nat.le_of_ble_eq_true rfl⟩) rfl rfl rfl rfl (Nat.le_of_ble_eq_true rfl) ⟨Nat.le_of_ble_eq_true rfl, Nat.le_of_ble_eq_true rfl⟩ (fun _ q => q.elim) (fun _ h => mw_x h) (fun _ h => h) (fun _ _ _ h _ _ => h) dX2_isInRing_7 ?_
  have z10 := pI_b (0 ≤ u ∧ u ≤ n - 1)
  refine g_if_eq S (tgt := 21) dX2_isInRing_10 (by decide) (by omega) (fun c10 => ?_) (fun c10 => ?_)
  · skip
    exact absurd c10 (by rw [pI_t (P := 0 ≤ u ∧ u ≤ n - 1) (by omega)]; decide)
  · skip
    refine g_aload_n S dX2_isInRing_13 rfl 0 rfl ?_
    refine g_iload_n S dX2_isInRing_14 rfl 1 rfl ?_
    refine g_callV S xK (As := [.int (iI u)]) (st := []) (stk' := [.int (iI (pI ((itS se al n 24 (stS se al (2 ^ u.toNat) n.toNat)).testBit u.toNat = true)))]) (Wp' := MW E am 0 pg n on se al) (r := (RX2, TX2, 6)) (m_X2_rings l E hj 0 pg n on se al u (by omega) hn hgr) (cwV 1 S.2.2.2.2 gX2_isInRing_X2_rings rfl rfl rfl (by decide +kernel) ⟨Nat.le_of_ble_eq_true rfl, Nat.le_of_ble_eq_true rfl⟩) rfl rfl rfl rfl (Nat.le_of_ble_eq_true rfl) ⟨Nat.le_of_ble_eq_true rfl, Nat.le_of_ble_eq_true rfl⟩ (fun _ q => q.elim) (fun _ h => mw_x h) (fun _ h => h) (fun _ _ _ h _ _ => h) dX2_isInRing_15 ?_
    refine g_goto S (tgt := 26) dX2_isInRing_18 (by decide) ?_
    exact g_zret S xr xlk (pI_01 _) dX2_isInRing_26 (fun _ h => h)
set_option maxHeartbeats 4000000 in
set_option maxRecDepth 100000 in
theorem m_X2_isInRingE (l : Launch) (E : EN) {am : Int → Nat} (hj : INM am) (th pg n : Int) (on se : Int → Int) (al : Int → Nat) (u : Int) (hh : u < 0 ∨ n ≤ u) (hr : -2147483648 ≤ u ∧ u ≤ 2147483647) (hn : 0 ≤ n ∧ n ≤ 24) : Met l yX2_isInRing wsX2_isInRing ({ frames := 2, cells := 0, slots := 0, locals := 43 }) (CI E [.ref (am 0), .int (iI u)] (MW E am th pg n on se al)) (QW (some (.int (iI 0))) (MW E am 1 pg n on se al) (AM am)) 0 0 (AM am) := by
  refine g_met (cc := cX2_isInRing) (maxL := 2) (ret := (some .boolean)) (lv := [(0, .ref (am 0)), (1, .int (iI u))]) (by decide) rfl (Nat.le_of_ble_eq_true rfl) rfl ?_
  intro xp xe xs xm xa xb xh xc S xK xr xlk xin
  have kf24 := S.2.2.2.2 (.fieldLink RX2 24 "BookIndexModel" "thrown" "I") (by decide +kernel)
  have hin2 : ∀ w ∈ wsX20, w ∈ wsX2_isInRing := by decide +kernel
  refine g_aload_n S dX2_isInRing_0 rfl 0 rfl ?_
  refine g_iconst S dX2_isInRing_1 ?_
  refine g_put S xK (Wp' := MW E am 0 pg n on se al) (ref := "BookIndexModel") (ty := .int) hin2 tyX2 tyX2_ok nmX2 0 (by decide) (show vwCl[2]? = some (RX2, TX2, 6) from rfl) kf24 (fun _ h9 => h9) rfl (by decide +kernel) rfl rfl (fun _ h => mw_x h) (Nat.le_of_ble_eq_true rfl) (am_in (by omega)) (fun _ _ h hv _ oq => mw_sX hj h hv oq) dX2_isInRing_2 ?_
  refine g_aload_n S dX2_isInRing_5 rfl 0 rfl ?_
  refine g_iload_n S dX2_isInRing_6 rfl 1 rfl ?_
  refine g_callV S xK (As := [.int (iI u)]) (st := []) (stk' := [.int (iI (pI (0 ≤ u ∧ u ≤ n - 1)))]) (Wp' := MW E am 0 pg n on se al) (r := (RX2, TX2, 6)) (m_X2_isHeading l E hj 0 pg n on se al u (by omega) hn) (cwV 1 S.2.2.2.2 gX2_isInRing_X2_isHeading rfl rfl rfl (by decide +kernel) ⟨Nat.le_of_ble_eq_true rfl, Nat.le_of_ble_eq_true rfl⟩) rfl rfl rfl rfl (Nat.le_of_ble_eq_true rfl) ⟨Nat.le_of_ble_eq_true rfl, Nat.le_of_ble_eq_true rfl⟩ (fun _ q => q.elim) (fun _ h => mw_x h) (fun _ h => h) (fun _ _ _ h _ _ => h) dX2_isInRing_7 ?_
  have z10 := pI_b (0 ≤ u ∧ u ≤ n - 1)
  refine g_if_eq S (tgt := 21) dX2_isInRing_10 (by decide) (by omega) (fun c10 => ?_) (fun c10 => ?_)
  · skip
    refine g_aload_n S dX2_isInRing_21 rfl 0 rfl ?_
    refine g_iconst S dX2_isInRing_22 ?_
    refine g_callV S xK (As := [.int (iI 1)]) (st := []) (stk' := [.int (iI 0)]) (Wp' := MW E am 1 pg n on se al) (r := (RX2, TX2, 6)) (m_X2_isNot l E hj 0 pg n on se al 1 ) (cwV 1 S.2.2.2.2 gX2_isInRing_X2_isNot rfl rfl rfl (by decide +kernel) ⟨Nat.le_of_ble_eq_true rfl, Nat.le_of_ble_eq_true rfl⟩) rfl rfl rfl rfl (Nat.le_of_ble_eq_true rfl) ⟨Nat.le_of_ble_eq_true rfl, Nat.le_of_ble_eq_true rfl⟩ (fun _ q => q) (fun _ h => mw_x h) (fun _ h => h) (fun _ _ _ h _ _ => h) dX2_isInRing_23 ?_
    exact g_zret S xr xlk (Or.inl rfl) dX2_isInRing_26 (fun _ h => h)
  · skip
    exact absurd c10 (fun z => z (pI_f (P := 0 ≤ u ∧ u ≤ n - 1) (by omega)))
set_option maxHeartbeats 4000000 in
set_option maxRecDepth 100000 in
theorem m_X2_nearest (l : Launch) (E : EN) {am : Int → Nat} (hj : INM am) (th pg n : Int) (on se : Int → Int) (al : Int → Nat) (sp : Int → SpT) (u : Int) (hh : 0 ≤ u ∧ u < n) (hn : 0 ≤ n ∧ n ≤ 24) (hpg : 1 ≤ pg ∧ pg ≤ 300) (hrl : RPS on sp n) (hsp : SPV sp n pg) (hon : ∀ k, on k = 0 ∨ on k = 1) : Met l yX2_nearest wsX2_nearest ({ frames := 3, cells := 0, slots := 0, locals := 71 }) (CI E [.ref (am 0), .int (iI u)] (MW E am th pg n on se al)) (QW (some (.int (iI ((nrS (fun o => if o = u then 0 else pic (sp u) (sp o) ((sp u).1 + (sp o).1).toNat 0 0 0) n.toNat).1)))) (MW E am 0 pg n on se al) (AM am)) 0 0 (AM am) := by
  refine g_met (cc := cX2_nearest) (maxL := 2) (ret := (some .int)) (lv := [(0, .ref (am 0)), (1, .int (iI u))]) (by decide) rfl (Nat.le_of_ble_eq_true rfl) rfl ?_
  intro xp xe xs xm xa xb xh xc S xK xr xlk xin
  have kf24 := S.2.2.2.2 (.fieldLink RX2 24 "BookIndexModel" "thrown" "I") (by decide +kernel)
  have hin2 : ∀ w ∈ wsX20, w ∈ wsX2_nearest := by decide +kernel
  refine g_aload_n S dX2_nearest_0 rfl 0 rfl ?_
  refine g_iconst S dX2_nearest_1 ?_
  refine g_put S xK (Wp' := MW E am 0 pg n on se al) (ref := "BookIndexModel") (ty := .int) hin2 tyX2 tyX2_ok nmX2 0 (by decide) (show vwCl[2]? = some (RX2, TX2, 6) from rfl) kf24 (fun _ h9 => h9) rfl (by decide +kernel) rfl rfl (fun _ h => mw_x h) (Nat.le_of_ble_eq_true rfl) (am_in (by omega)) (fun _ _ h hv _ oq => mw_sX hj h hv oq) dX2_nearest_2 ?_
  refine g_aload_n S dX2_nearest_5 rfl 0 rfl ?_
  refine g_iload_n S dX2_nearest_6 rfl 1 rfl ?_
  refine g_callV S xK (As := [.int (iI u)]) (st := []) (stk' := [.int (iI (pI (0 ≤ u ∧ u ≤ n - 1)))]) (Wp' := MW E am 0 pg n on se al) (r := (RX2, TX2, 6)) (m_X2_isHeading l E hj 0 pg n on se al u (by omega) hn) (cwV 1 S.2.2.2.2 gX2_nearest_X2_isHeading rfl rfl rfl (by decide +kernel) ⟨Nat.le_of_ble_eq_true rfl, Nat.le_of_ble_eq_true rfl⟩) rfl rfl rfl rfl (Nat.le_of_ble_eq_true rfl) ⟨Nat.le_of_ble_eq_true rfl, Nat.le_of_ble_eq_true rfl⟩ (fun _ q => q.elim) (fun _ h => mw_x h) (fun _ h => h) (fun _ _ _ h _ _ => h) dX2_nearest_7 ?_
  have z10 := pI_b (0 ≤ u ∧ u ≤ n - 1)
  refine g_if_eq S (tgt := 21) dX2_nearest_10 (by decide) (by omega) (fun c10 => ?_) (fun c10 => ?_)
  · skip
    exact absurd c10 (by rw [pI_t (P := 0 ≤ u ∧ u ≤ n - 1) (by omega)]; decide)
  · skip
    refine g_aload_n S dX2_nearest_13 rfl 0 rfl ?_
    refine g_iload_n S dX2_nearest_14 rfl 1 rfl ?_
    refine g_callV S xK (As := [.int (iI u)]) (st := []) (stk' := [.int (iI ((nrS (fun o => if o = u then 0 else smI (fun k => pI (on (302 * u + (k + 1)) = 1 ∧ on (302 * o + (k + 1)) = 1)) pg.toNat) n.toNat).1))]) (Wp' := MW E am 0 pg n on se al) (r := (RX2, TX2, 6)) (m_X2_near l E hj 0 pg n on se al u (by omega) hn hpg hon) (cwV 1 S.2.2.2.2 gX2_nearest_X2_near rfl rfl rfl (by decide +kernel) ⟨Nat.le_of_ble_eq_true rfl, Nat.le_of_ble_eq_true rfl⟩) rfl rfl rfl rfl (Nat.le_of_ble_eq_true rfl) ⟨Nat.le_of_ble_eq_true rfl, Nat.le_of_ble_eq_true rfl⟩ (fun _ q => q.elim) (fun _ h => mw_x h) (fun _ h => h) (fun _ _ _ h _ _ => h) dX2_nearest_15 ?_
    refine g_goto S (tgt := 26) dX2_nearest_18 (by decide) ?_
    rw [show ((nrS (fun o => if o = u then 0 else pic (sp u) (sp o) ((sp u).1 + (sp o).1).toNat 0 0 0) n.toNat).1) = ((nrS (fun o => if o = u then 0 else smI (fun k => pI (on (302 * u + (k + 1)) = 1 ∧ on (302 * o + (k + 1)) = 1)) pg.toNat) n.toNat).1) from (rl_near hrl hsp (by omega) (by omega)).symm]
    exact g_iret S xr xlk dX2_nearest_26 (fun _ h => h)
set_option maxHeartbeats 4000000 in
set_option maxRecDepth 100000 in
theorem m_X2_nearestE (l : Launch) (E : EN) {am : Int → Nat} (hj : INM am) (th pg n : Int) (on se : Int → Int) (al : Int → Nat) (u : Int) (hh : u < 0 ∨ n ≤ u) (hr : -2147483648 ≤ u ∧ u ≤ 2147483647) (hn : 0 ≤ n ∧ n ≤ 24) : Met l yX2_nearest wsX2_nearest ({ frames := 2, cells := 0, slots := 0, locals := 43 }) (CI E [.ref (am 0), .int (iI u)] (MW E am th pg n on se al)) (QW (some (.int (iI 0))) (MW E am 1 pg n on se al) (AM am)) 0 0 (AM am) := by
  refine g_met (cc := cX2_nearest) (maxL := 2) (ret := (some .int)) (lv := [(0, .ref (am 0)), (1, .int (iI u))]) (by decide) rfl (Nat.le_of_ble_eq_true rfl) rfl ?_
  intro xp xe xs xm xa xb xh xc S xK xr xlk xin
  have kf24 := S.2.2.2.2 (.fieldLink RX2 24 "BookIndexModel" "thrown" "I") (by decide +kernel)
  have hin2 : ∀ w ∈ wsX20, w ∈ wsX2_nearest := by decide +kernel
  refine g_aload_n S dX2_nearest_0 rfl 0 rfl ?_
  refine g_iconst S dX2_nearest_1 ?_
  refine g_put S xK (Wp' := MW E am 0 pg n on se al) (ref := "BookIndexModel") (ty := .int) hin2 tyX2 tyX2_ok nmX2 0 (by decide) (show vwCl[2]? = some (RX2, TX2, 6) from rfl) kf24 (fun _ h9 => h9) rfl (by decide +kernel) rfl rfl (fun _ h => mw_x h) (Nat.le_of_ble_eq_true rfl) (am_in (by omega)) (fun _ _ h hv _ oq => mw_sX hj h hv oq) dX2_nearest_2 ?_
  refine g_aload_n S dX2_nearest_5 rfl 0 rfl ?_
  refine g_iload_n S dX2_nearest_6 rfl 1 rfl ?_
  refine g_callV S xK (As := [.int (iI u)]) (st := []) (stk' := [.int (iI (pI (0 ≤ u ∧ u ≤ n - 1)))]) (Wp' := MW E am 0 pg n on se al) (r := (RX2, TX2, 6)) (m_X2_isHeading l E hj 0 pg n on se al u (by omega) hn) (cwV 1 S.2.2.2.2 gX2_nearest_X2_isHeading rfl rfl rfl (by decide +kernel) ⟨Nat.le_of_ble_eq_true rfl, Nat.le_of_ble_eq_true rfl⟩) rfl rfl rfl rfl (Nat.le_of_ble_eq_true rfl) ⟨Nat.le_of_ble_eq_true rfl, Nat.le_of_ble_eq_true rfl⟩ (fun _ q => q.elim) (fun _ h => mw_x h) (fun _ h => h) (fun _ _ _ h _ _ => h) dX2_nearest_7 ?_
  have z10 := pI_b (0 ≤ u ∧ u ≤ n - 1)
  refine g_if_eq S (tgt := 21) dX2_nearest_10 (by decide) (by omega) (fun c10 => ?_) (fun c10 => ?_)
  · skip
    refine g_aload_n S dX2_nearest_21 rfl 0 rfl ?_
    refine g_iconst S dX2_nearest_22 ?_
    refine g_callV S xK (As := [.int (iI 1)]) (st := []) (stk' := [.int (iI 0)]) (Wp' := MW E am 1 pg n on se al) (r := (RX2, TX2, 6)) (m_X2_no l E hj 0 pg n on se al 1 ) (cwV 1 S.2.2.2.2 gX2_nearest_X2_no rfl rfl rfl (by decide +kernel) ⟨Nat.le_of_ble_eq_true rfl, Nat.le_of_ble_eq_true rfl⟩) rfl rfl rfl rfl (Nat.le_of_ble_eq_true rfl) ⟨Nat.le_of_ble_eq_true rfl, Nat.le_of_ble_eq_true rfl⟩ (fun _ q => q) (fun _ h => mw_x h) (fun _ h => h) (fun _ _ _ h _ _ => h) dX2_nearest_23 ?_
    exact g_iret S xr xlk dX2_nearest_26 (fun _ h => h)
  · skip
    exact absurd c10 (fun z => z (pI_f (P := 0 ≤ u ∧ u ≤ n - 1) (by omega)))
set_option maxHeartbeats 4000000 in
set_option maxRecDepth 100000 in
theorem m_X2_bookPages (l : Launch) (E : EN) {am : Int → Nat} (hj : INM am) (th pg n : Int) (on se : Int → Int) (al : Int → Nat)  : Met l yX2_bookPages wsX2_bookPages ({ frames := 1, cells := 0, slots := 0, locals := 21 }) (CI E [.ref (am 0)] (MW E am th pg n on se al)) (QW (some (.int (iI pg))) (MW E am 0 pg n on se al) (AM am)) 0 0 (AM am) := by
  refine g_met (cc := cX2_bookPages) (maxL := 1) (ret := (some .int)) (lv := [(0, .ref (am 0))]) (by decide) rfl (Nat.le_of_ble_eq_true rfl) rfl ?_
  intro xp xe xs xm xa xb xh xc S xK xr xlk xin
  have kf9 := S.2.2.2.2 (.fieldLink RX2 9 "BookIndexModel" "pages" "I") (by decide +kernel)
  have hin2 : ∀ w ∈ wsX20, w ∈ wsX2_bookPages := by decide +kernel
  refine g_aload_n S dX2_bookPages_0 rfl 0 rfl ?_
  refine g_aload_n S dX2_bookPages_1 rfl 0 rfl ?_
  refine g_get S xK (ref := "BookIndexModel") hin2 1 (by decide) (show vwCl[2]? = some (RX2, TX2, 6) from rfl) kf9 (fun _ h9 => h9) (fun _ h => mw_x h) rfl dX2_bookPages_2 ?_
  refine g_callV S xK (As := [.int (iI pg)]) (st := []) (stk' := [.int (iI pg)]) (Wp' := MW E am 0 pg n on se al) (r := (RX2, TX2, 6)) (m_X2_ok l E hj th pg n on se al pg ) (cwV 1 S.2.2.2.2 gX2_bookPages_X2_ok rfl rfl rfl (by decide +kernel) ⟨Nat.le_of_ble_eq_true rfl, Nat.le_of_ble_eq_true rfl⟩) rfl rfl rfl rfl (Nat.le_of_ble_eq_true rfl) ⟨Nat.le_of_ble_eq_true rfl, Nat.le_of_ble_eq_true rfl⟩ (fun _ q => q) (fun _ h => mw_x h) (fun _ h => h) (fun _ _ _ h _ _ => h) dX2_bookPages_5 ?_
  exact g_iret S xr xlk dX2_bookPages_8 (fun _ h => h)
set_option maxHeartbeats 4000000 in
set_option maxRecDepth 100000 in
theorem m_X2_headings (l : Launch) (E : EN) {am : Int → Nat} (hj : INM am) (th pg n : Int) (on se : Int → Int) (al : Int → Nat)  : Met l yX2_headings wsX2_headings ({ frames := 1, cells := 0, slots := 0, locals := 21 }) (CI E [.ref (am 0)] (MW E am th pg n on se al)) (QW (some (.int (iI n))) (MW E am 0 pg n on se al) (AM am)) 0 0 (AM am) := by
  refine g_met (cc := cX2_headings) (maxL := 1) (ret := (some .int)) (lv := [(0, .ref (am 0))]) (by decide) rfl (Nat.le_of_ble_eq_true rfl) rfl ?_
  intro xp xe xs xm xa xb xh xc S xK xr xlk xin
  have kf27 := S.2.2.2.2 (.fieldLink RX2 27 "BookIndexModel" "headings" "I") (by decide +kernel)
  have hin2 : ∀ w ∈ wsX20, w ∈ wsX2_headings := by decide +kernel
  refine g_aload_n S dX2_headings_0 rfl 0 rfl ?_
  refine g_aload_n S dX2_headings_1 rfl 0 rfl ?_
  refine g_get S xK (ref := "BookIndexModel") hin2 2 (by decide) (show vwCl[2]? = some (RX2, TX2, 6) from rfl) kf27 (fun _ h9 => h9) (fun _ h => mw_x h) rfl dX2_headings_2 ?_
  refine g_callV S xK (As := [.int (iI n)]) (st := []) (stk' := [.int (iI n)]) (Wp' := MW E am 0 pg n on se al) (r := (RX2, TX2, 6)) (m_X2_ok l E hj th pg n on se al n ) (cwV 1 S.2.2.2.2 gX2_headings_X2_ok rfl rfl rfl (by decide +kernel) ⟨Nat.le_of_ble_eq_true rfl, Nat.le_of_ble_eq_true rfl⟩) rfl rfl rfl rfl (Nat.le_of_ble_eq_true rfl) ⟨Nat.le_of_ble_eq_true rfl, Nat.le_of_ble_eq_true rfl⟩ (fun _ q => q) (fun _ h => mw_x h) (fun _ h => h) (fun _ _ _ h _ _ => h) dX2_headings_5 ?_
  exact g_iret S xr xlk dX2_headings_8 (fun _ h => h)
set_option maxHeartbeats 4000000 in
set_option maxRecDepth 100000 in
theorem m_X2_barePages (l : Launch) (E : EN) {am : Int → Nat} (hj : INM am) (th pg n : Int) (on se : Int → Int) (al : Int → Nat) (sp : Int → SpT) (hn : 0 ≤ n ∧ n ≤ 24) (hpg : 1 ≤ pg ∧ pg ≤ 300) (hon : ∀ k, on k = 0 ∨ on k = 1) (hrl : RPS on sp n) : Met l yX2_barePages wsX2_barePages ({ frames := 3, cells := 0, slots := 0, locals := 67 }) (CI E [.ref (am 0)] (MW E am th pg n on se al)) (QW (some (.int (iI (BARE sp n pg)))) (MW E am 0 pg n on se al) (AM am)) 0 0 (AM am) := by
  refine g_met (cc := cX2_barePages) (maxL := 1) (ret := (some .int)) (lv := [(0, .ref (am 0))]) (by decide) rfl (Nat.le_of_ble_eq_true rfl) rfl ?_
  intro xp xe xs xm xa xb xh xc S xK xr xlk xin
  refine g_aload_n S dX2_barePages_0 rfl 0 rfl ?_
  refine g_aload_n S dX2_barePages_1 rfl 0 rfl ?_
  refine g_callV S xK (As := []) (st := [.ref (am 0)]) (stk' := [.int (iI (smI (fun k => pI (smI (fun o => on (302 * o + (k + 1))) n.toNat = 0)) pg.toNat)), .ref (am 0)]) (Wp' := MW E am th pg n on se al) (r := (RX2, TX2, 6)) (m_X2_bare l E hj th pg n on se al  hn hpg hon) (cwV 0 S.2.2.2.2 gX2_barePages_X2_bare rfl rfl rfl (by decide +kernel) ⟨Nat.le_of_ble_eq_true rfl, Nat.le_of_ble_eq_true rfl⟩) rfl rfl rfl rfl (Nat.le_of_ble_eq_true rfl) ⟨Nat.le_of_ble_eq_true rfl, Nat.le_of_ble_eq_true rfl⟩ (fun _ q => q.elim) (fun _ h => mw_x h) (fun _ h => h) (fun _ _ _ h _ _ => h) dX2_barePages_2 ?_
  refine g_callV S xK (As := [.int (iI (smI (fun k => pI (smI (fun o => on (302 * o + (k + 1))) n.toNat = 0)) pg.toNat))]) (st := []) (stk' := [.int (iI (smI (fun k => pI (smI (fun o => on (302 * o + (k + 1))) n.toNat = 0)) pg.toNat))]) (Wp' := MW E am 0 pg n on se al) (r := (RX2, TX2, 6)) (m_X2_ok l E hj th pg n on se al (smI (fun k => pI (smI (fun o => on (302 * o + (k + 1))) n.toNat = 0)) pg.toNat) ) (cwV 1 S.2.2.2.2 gX2_barePages_X2_ok rfl rfl rfl (by decide +kernel) ⟨Nat.le_of_ble_eq_true rfl, Nat.le_of_ble_eq_true rfl⟩) rfl rfl rfl rfl (Nat.le_of_ble_eq_true rfl) ⟨Nat.le_of_ble_eq_true rfl, Nat.le_of_ble_eq_true rfl⟩ (fun _ q => q) (fun _ h => mw_x h) (fun _ h => h) (fun _ _ _ h _ _ => h) dX2_barePages_5 ?_
  rw [show (BARE sp n pg) = (smI (fun k => pI (smI (fun o => on (302 * o + (k + 1))) n.toNat = 0)) pg.toNat) from (rl_bare hrl hon (by omega)).symm]
  exact g_iret S xr xlk dX2_barePages_8 (fun _ h => h)
set_option maxHeartbeats 4000000 in
set_option maxRecDepth 100000 in
theorem m_X2_fullestPage (l : Launch) (E : EN) {am : Int → Nat} (hj : INM am) (th pg n : Int) (on se : Int → Int) (al : Int → Nat) (sp : Int → SpT) (hn : 0 ≤ n ∧ n ≤ 24) (hpg : 1 ≤ pg ∧ pg ≤ 300) (hon : ∀ k, on k = 0 ∨ on k = 1) (hrl : RPS on sp n) : Met l yX2_fullestPage wsX2_fullestPage ({ frames := 3, cells := 0, slots := 0, locals := 67 }) (CI E [.ref (am 0)] (MW E am th pg n on se al)) (QW (some (.int (iI (FULL sp n pg)))) (MW E am 0 pg n on se al) (AM am)) 0 0 (AM am) := by
  refine g_met (cc := cX2_fullestPage) (maxL := 1) (ret := (some .int)) (lv := [(0, .ref (am 0))]) (by decide) rfl (Nat.le_of_ble_eq_true rfl) rfl ?_
  intro xp xe xs xm xa xb xh xc S xK xr xlk xin
  refine g_aload_n S dX2_fullestPage_0 rfl 0 rfl ?_
  refine g_aload_n S dX2_fullestPage_1 rfl 0 rfl ?_
  refine g_callV S xK (As := []) (st := [.ref (am 0)]) (stk' := [.int (iI (flS (fun q => smI (fun o => on (302 * o + q)) n.toNat) (pg - 1).toNat)), .ref (am 0)]) (Wp' := MW E am th pg n on se al) (r := (RX2, TX2, 6)) (m_X2_fullest l E hj th pg n on se al  hn hpg hon) (cwV 0 S.2.2.2.2 gX2_fullestPage_X2_fullest rfl rfl rfl (by decide +kernel) ⟨Nat.le_of_ble_eq_true rfl, Nat.le_of_ble_eq_true rfl⟩) rfl rfl rfl rfl (Nat.le_of_ble_eq_true rfl) ⟨Nat.le_of_ble_eq_true rfl, Nat.le_of_ble_eq_true rfl⟩ (fun _ q => q.elim) (fun _ h => mw_x h) (fun _ h => h) (fun _ _ _ h _ _ => h) dX2_fullestPage_2 ?_
  refine g_callV S xK (As := [.int (iI (flS (fun q => smI (fun o => on (302 * o + q)) n.toNat) (pg - 1).toNat))]) (st := []) (stk' := [.int (iI (flS (fun q => smI (fun o => on (302 * o + q)) n.toNat) (pg - 1).toNat))]) (Wp' := MW E am 0 pg n on se al) (r := (RX2, TX2, 6)) (m_X2_ok l E hj th pg n on se al (flS (fun q => smI (fun o => on (302 * o + q)) n.toNat) (pg - 1).toNat) ) (cwV 1 S.2.2.2.2 gX2_fullestPage_X2_ok rfl rfl rfl (by decide +kernel) ⟨Nat.le_of_ble_eq_true rfl, Nat.le_of_ble_eq_true rfl⟩) rfl rfl rfl rfl (Nat.le_of_ble_eq_true rfl) ⟨Nat.le_of_ble_eq_true rfl, Nat.le_of_ble_eq_true rfl⟩ (fun _ q => q) (fun _ h => mw_x h) (fun _ h => h) (fun _ _ _ h _ _ => h) dX2_fullestPage_5 ?_
  rw [show (FULL sp n pg) = (flS (fun q => smI (fun o => on (302 * o + q)) n.toNat) (pg - 1).toNat) from (rl_full hrl hon (by omega)).symm]
  exact g_iret S xr xlk dX2_fullestPage_8 (fun _ h => h)
set_option maxHeartbeats 4000000 in
set_option maxRecDepth 100000 in
theorem m_X2_vainSees (l : Launch) (E : EN) {am : Int → Nat} (hj : INM am) (th pg n : Int) (on se : Int → Int) (al : Int → Nat) (sp : Int → SpT) (hn : 0 ≤ n ∧ n ≤ 24) (hpg : 1 ≤ pg ∧ pg ≤ 300) (hon : ∀ k, on k = 0 ∨ on k = 1) (hgr : GR se al n) (hrl : RPS on sp n) (hsp : SPV sp n pg) : Met l yX2_vainSees wsX2_vainSees ({ frames := 3, cells := 0, slots := 0, locals := 67 }) (CI E [.ref (am 0)] (MW E am th pg n on se al)) (QW (some (.int (iI (VAIN sp se n)))) (MW E am 0 pg n on se al) (AM am)) 0 0 (AM am) := by
  refine g_met (cc := cX2_vainSees) (maxL := 1) (ret := (some .int)) (lv := [(0, .ref (am 0))]) (by decide) rfl (Nat.le_of_ble_eq_true rfl) rfl ?_
  intro xp xe xs xm xa xb xh xc S xK xr xlk xin
  refine g_aload_n S dX2_vainSees_0 rfl 0 rfl ?_
  refine g_aload_n S dX2_vainSees_1 rfl 0 rfl ?_
  refine g_callV S xK (As := []) (st := [.ref (am 0)]) (stk' := [.int (iI (smI (fun h => pI ((fun h => se h ≠ -1 ∧ (eS se (n + 1).toNat h = -1 ∨ smI (fun k => on (302 * eS se (n + 1).toNat h + (k + 1))) pg.toNat = 0)) h)) n.toNat)), .ref (am 0)]) (Wp' := MW E am th pg n on se al) (r := (RX2, TX2, 6)) (m_X2_vain l E hj th pg n on se al  hn hpg hon hgr) (cwV 0 S.2.2.2.2 gX2_vainSees_X2_vain rfl rfl rfl (by decide +kernel) ⟨Nat.le_of_ble_eq_true rfl, Nat.le_of_ble_eq_true rfl⟩) rfl rfl rfl rfl (Nat.le_of_ble_eq_true rfl) ⟨Nat.le_of_ble_eq_true rfl, Nat.le_of_ble_eq_true rfl⟩ (fun _ q => q.elim) (fun _ h => mw_x h) (fun _ h => h) (fun _ _ _ h _ _ => h) dX2_vainSees_2 ?_
  refine g_callV S xK (As := [.int (iI (smI (fun h => pI ((fun h => se h ≠ -1 ∧ (eS se (n + 1).toNat h = -1 ∨ smI (fun k => on (302 * eS se (n + 1).toNat h + (k + 1))) pg.toNat = 0)) h)) n.toNat))]) (st := []) (stk' := [.int (iI (smI (fun h => pI ((fun h => se h ≠ -1 ∧ (eS se (n + 1).toNat h = -1 ∨ smI (fun k => on (302 * eS se (n + 1).toNat h + (k + 1))) pg.toNat = 0)) h)) n.toNat))]) (Wp' := MW E am 0 pg n on se al) (r := (RX2, TX2, 6)) (m_X2_ok l E hj th pg n on se al (smI (fun h => pI ((fun h => se h ≠ -1 ∧ (eS se (n + 1).toNat h = -1 ∨ smI (fun k => on (302 * eS se (n + 1).toNat h + (k + 1))) pg.toNat = 0)) h)) n.toNat) ) (cwV 1 S.2.2.2.2 gX2_vainSees_X2_ok rfl rfl rfl (by decide +kernel) ⟨Nat.le_of_ble_eq_true rfl, Nat.le_of_ble_eq_true rfl⟩) rfl rfl rfl rfl (Nat.le_of_ble_eq_true rfl) ⟨Nat.le_of_ble_eq_true rfl, Nat.le_of_ble_eq_true rfl⟩ (fun _ q => q) (fun _ h => mw_x h) (fun _ h => h) (fun _ _ _ h _ _ => h) dX2_vainSees_5 ?_
  rw [show (VAIN sp se n) = (smI (fun h => pI ((fun h => se h ≠ -1 ∧ (eS se (n + 1).toNat h = -1 ∨ smI (fun k => on (302 * eS se (n + 1).toNat h + (k + 1))) pg.toNat = 0)) h)) n.toNat) from (rl_vain hrl hsp hon (by omega) hn hgr).symm]
  exact g_iret S xr xlk dX2_vainSees_8 (fun _ h => h)
set_option maxHeartbeats 4000000 in
set_option maxRecDepth 100000 in
theorem m_X2_unled (l : Launch) (E : EN) {am : Int → Nat} (hj : INM am) (th pg n : Int) (on se : Int → Int) (al : Int → Nat) (sp : Int → SpT) (hn : 0 ≤ n ∧ n ≤ 24) (hgr : GR se al n) : Met l yX2_unled wsX2_unled ({ frames := 2, cells := 0, slots := 0, locals := 45 }) (CI E [.ref (am 0)] (MW E am th pg n on se al)) (QW (some (.int (iI (UNL se al n)))) (MW E am 0 pg n on se al) (AM am)) 0 0 (AM am) := by
  refine g_met (cc := cX2_unled) (maxL := 1) (ret := (some .int)) (lv := [(0, .ref (am 0))]) (by decide) rfl (Nat.le_of_ble_eq_true rfl) rfl ?_
  intro xp xe xs xm xa xb xh xc S xK xr xlk xin
  refine g_aload_n S dX2_unled_0 rfl 0 rfl ?_
  refine g_aload_n S dX2_unled_1 rfl 0 rfl ?_
  refine g_callV S xK (As := []) (st := [.ref (am 0)]) (stk' := [.int (iI (n - ((pop (rS se al n n.toNat) 24 : Nat) : Int))), .ref (am 0)]) (Wp' := MW E am th pg n on se al) (r := (RX2, TX2, 6)) (m_X2_alone l E hj th pg n on se al  hn hgr) (cwV 0 S.2.2.2.2 gX2_unled_X2_alone rfl rfl rfl (by decide +kernel) ⟨Nat.le_of_ble_eq_true rfl, Nat.le_of_ble_eq_true rfl⟩) rfl rfl rfl rfl (Nat.le_of_ble_eq_true rfl) ⟨Nat.le_of_ble_eq_true rfl, Nat.le_of_ble_eq_true rfl⟩ (fun _ q => q.elim) (fun _ h => mw_x h) (fun _ h => h) (fun _ _ _ h _ _ => h) dX2_unled_2 ?_
  refine g_callV S xK (As := [.int (iI (n - ((pop (rS se al n n.toNat) 24 : Nat) : Int)))]) (st := []) (stk' := [.int (iI (n - ((pop (rS se al n n.toNat) 24 : Nat) : Int)))]) (Wp' := MW E am 0 pg n on se al) (r := (RX2, TX2, 6)) (m_X2_ok l E hj th pg n on se al (n - ((pop (rS se al n n.toNat) 24 : Nat) : Int)) ) (cwV 1 S.2.2.2.2 gX2_unled_X2_ok rfl rfl rfl (by decide +kernel) ⟨Nat.le_of_ble_eq_true rfl, Nat.le_of_ble_eq_true rfl⟩) rfl rfl rfl rfl (Nat.le_of_ble_eq_true rfl) ⟨Nat.le_of_ble_eq_true rfl, Nat.le_of_ble_eq_true rfl⟩ (fun _ q => q) (fun _ h => mw_x h) (fun _ h => h) (fun _ _ _ h _ _ => h) dX2_unled_5 ?_
  rw [show (UNL se al n) = (n - ((pop (rS se al n n.toNat) 24 : Nat) : Int)) from rl_alone.symm]
  exact g_iret S xr xlk dX2_unled_8 (fun _ h => h)
set_option maxHeartbeats 4000000 in
set_option maxRecDepth 100000 in
theorem m_X2_headingsOn (l : Launch) (E : EN) {am : Int → Nat} (hj : INM am) (th pg n : Int) (on se : Int → Int) (al : Int → Nat) (sp : Int → SpT) (q : Int) (hq : 1 ≤ q ∧ q ≤ pg) (hn : 0 ≤ n ∧ n ≤ 24) (hpg : 1 ≤ pg ∧ pg ≤ 300) (hon : ∀ k, on k = 0 ∨ on k = 1) (hrl : RPS on sp n) : Met l yX2_headingsOn wsX2_headingsOn ({ frames := 2, cells := 0, slots := 0, locals := 45 }) (CI E [.ref (am 0), .int (iI q)] (MW E am th pg n on se al)) (QW (some (.int (iI (CHN sp n q)))) (MW E am 0 pg n on se al) (AM am)) 0 0 (AM am) := by
  refine g_met (cc := cX2_headingsOn) (maxL := 2) (ret := (some .int)) (lv := [(0, .ref (am 0)), (1, .int (iI q))]) (by decide) rfl (Nat.le_of_ble_eq_true rfl) rfl ?_
  intro xp xe xs xm xa xb xh xc S xK xr xlk xin
  have kf24 := S.2.2.2.2 (.fieldLink RX2 24 "BookIndexModel" "thrown" "I") (by decide +kernel)
  have hin2 : ∀ w ∈ wsX20, w ∈ wsX2_headingsOn := by decide +kernel
  refine g_aload_n S dX2_headingsOn_0 rfl 0 rfl ?_
  refine g_iconst S dX2_headingsOn_1 ?_
  refine g_put S xK (Wp' := MW E am 0 pg n on se al) (ref := "BookIndexModel") (ty := .int) hin2 tyX2 tyX2_ok nmX2 0 (by decide) (show vwCl[2]? = some (RX2, TX2, 6) from rfl) kf24 (fun _ h9 => h9) rfl (by decide +kernel) rfl rfl (fun _ h => mw_x h) (Nat.le_of_ble_eq_true rfl) (am_in (by omega)) (fun _ _ h hv _ oq => mw_sX hj h hv oq) dX2_headingsOn_2 ?_
  refine g_aload_n S dX2_headingsOn_5 rfl 0 rfl ?_
  refine g_iload_n S dX2_headingsOn_6 rfl 1 rfl ?_
  refine g_callV S xK (As := [.int (iI q)]) (st := []) (stk' := [.int (iI (pI (1 ≤ q ∧ q ≤ pg)))]) (Wp' := MW E am 0 pg n on se al) (r := (RX2, TX2, 6)) (m_X2_isPage l E hj 0 pg n on se al q (by omega) hpg) (cwV 1 S.2.2.2.2 gX2_headingsOn_X2_isPage rfl rfl rfl (by decide +kernel) ⟨Nat.le_of_ble_eq_true rfl, Nat.le_of_ble_eq_true rfl⟩) rfl rfl rfl rfl (Nat.le_of_ble_eq_true rfl) ⟨Nat.le_of_ble_eq_true rfl, Nat.le_of_ble_eq_true rfl⟩ (fun _ q => q.elim) (fun _ h => mw_x h) (fun _ h => h) (fun _ _ _ h _ _ => h) dX2_headingsOn_7 ?_
  have z10 := pI_b (1 ≤ q ∧ q ≤ pg)
  refine g_if_eq S (tgt := 21) dX2_headingsOn_10 (by decide) (by omega) (fun c10 => ?_) (fun c10 => ?_)
  · skip
    exact absurd c10 (by rw [pI_t (P := 1 ≤ q ∧ q ≤ pg) (by omega)]; decide)
  · skip
    refine g_aload_n S dX2_headingsOn_13 rfl 0 rfl ?_
    refine g_iload_n S dX2_headingsOn_14 rfl 1 rfl ?_
    refine g_callV S xK (As := [.int (iI q)]) (st := []) (stk' := [.int (iI (smI (fun o => on (302 * o + q)) n.toNat))]) (Wp' := MW E am 0 pg n on se al) (r := (RX2, TX2, 6)) (m_X2_onPage l E hj 0 pg n on se al q (by omega) hn hon) (cwV 1 S.2.2.2.2 gX2_headingsOn_X2_onPage rfl rfl rfl (by decide +kernel) ⟨Nat.le_of_ble_eq_true rfl, Nat.le_of_ble_eq_true rfl⟩) rfl rfl rfl rfl (Nat.le_of_ble_eq_true rfl) ⟨Nat.le_of_ble_eq_true rfl, Nat.le_of_ble_eq_true rfl⟩ (fun _ q => q.elim) (fun _ h => mw_x h) (fun _ h => h) (fun _ _ _ h _ _ => h) dX2_headingsOn_15 ?_
    refine g_goto S (tgt := 26) dX2_headingsOn_18 (by decide) ?_
    rw [show (CHN sp n q) = (smI (fun o => on (302 * o + q)) n.toNat) from (rl_onPage hrl hon (by omega)).symm]
    exact g_iret S xr xlk dX2_headingsOn_26 (fun _ h => h)
set_option maxHeartbeats 4000000 in
set_option maxRecDepth 100000 in
theorem m_X2_headingsOnE (l : Launch) (E : EN) {am : Int → Nat} (hj : INM am) (th pg n : Int) (on se : Int → Int) (al : Int → Nat) (q : Int) (hq : q < 1 ∨ pg < q) (hr : -2147483648 ≤ q ∧ q ≤ 2147483647) (hpg : 1 ≤ pg ∧ pg ≤ 300) : Met l yX2_headingsOn wsX2_headingsOn ({ frames := 2, cells := 0, slots := 0, locals := 43 }) (CI E [.ref (am 0), .int (iI q)] (MW E am th pg n on se al)) (QW (some (.int (iI 0))) (MW E am 1 pg n on se al) (AM am)) 0 0 (AM am) := by
  refine g_met (cc := cX2_headingsOn) (maxL := 2) (ret := (some .int)) (lv := [(0, .ref (am 0)), (1, .int (iI q))]) (by decide) rfl (Nat.le_of_ble_eq_true rfl) rfl ?_
  intro xp xe xs xm xa xb xh xc S xK xr xlk xin
  have kf24 := S.2.2.2.2 (.fieldLink RX2 24 "BookIndexModel" "thrown" "I") (by decide +kernel)
  have hin2 : ∀ w ∈ wsX20, w ∈ wsX2_headingsOn := by decide +kernel
  refine g_aload_n S dX2_headingsOn_0 rfl 0 rfl ?_
  refine g_iconst S dX2_headingsOn_1 ?_
  refine g_put S xK (Wp' := MW E am 0 pg n on se al) (ref := "BookIndexModel") (ty := .int) hin2 tyX2 tyX2_ok nmX2 0 (by decide) (show vwCl[2]? = some (RX2, TX2, 6) from rfl) kf24 (fun _ h9 => h9) rfl (by decide +kernel) rfl rfl (fun _ h => mw_x h) (Nat.le_of_ble_eq_true rfl) (am_in (by omega)) (fun _ _ h hv _ oq => mw_sX hj h hv oq) dX2_headingsOn_2 ?_
  refine g_aload_n S dX2_headingsOn_5 rfl 0 rfl ?_
  refine g_iload_n S dX2_headingsOn_6 rfl 1 rfl ?_
  refine g_callV S xK (As := [.int (iI q)]) (st := []) (stk' := [.int (iI (pI (1 ≤ q ∧ q ≤ pg)))]) (Wp' := MW E am 0 pg n on se al) (r := (RX2, TX2, 6)) (m_X2_isPage l E hj 0 pg n on se al q (by omega) hpg) (cwV 1 S.2.2.2.2 gX2_headingsOn_X2_isPage rfl rfl rfl (by decide +kernel) ⟨Nat.le_of_ble_eq_true rfl, Nat.le_of_ble_eq_true rfl⟩) rfl rfl rfl rfl (Nat.le_of_ble_eq_true rfl) ⟨Nat.le_of_ble_eq_true rfl, Nat.le_of_ble_eq_true rfl⟩ (fun _ q => q.elim) (fun _ h => mw_x h) (fun _ h => h) (fun _ _ _ h _ _ => h) dX2_headingsOn_7 ?_
  have z10 := pI_b (1 ≤ q ∧ q ≤ pg)
  refine g_if_eq S (tgt := 21) dX2_headingsOn_10 (by decide) (by omega) (fun c10 => ?_) (fun c10 => ?_)
  · skip
    refine g_aload_n S dX2_headingsOn_21 rfl 0 rfl ?_
    refine g_iconst S dX2_headingsOn_22 ?_
    refine g_callV S xK (As := [.int (iI 1)]) (st := []) (stk' := [.int (iI 0)]) (Wp' := MW E am 1 pg n on se al) (r := (RX2, TX2, 6)) (m_X2_no l E hj 0 pg n on se al 1 ) (cwV 1 S.2.2.2.2 gX2_headingsOn_X2_no rfl rfl rfl (by decide +kernel) ⟨Nat.le_of_ble_eq_true rfl, Nat.le_of_ble_eq_true rfl⟩) rfl rfl rfl rfl (Nat.le_of_ble_eq_true rfl) ⟨Nat.le_of_ble_eq_true rfl, Nat.le_of_ble_eq_true rfl⟩ (fun _ q => q) (fun _ h => mw_x h) (fun _ h => h) (fun _ _ _ h _ _ => h) dX2_headingsOn_23 ?_
    exact g_iret S xr xlk dX2_headingsOn_26 (fun _ h => h)
  · skip
    exact absurd c10 (fun z => z (pI_f (P := 1 ≤ q ∧ q ≤ pg) (by omega)))
set_option maxHeartbeats 4000000 in
set_option maxRecDepth 100000 in
theorem m_X2_isOn (l : Launch) (E : EN) {am : Int → Nat} (hj : INM am) (th pg n : Int) (on se : Int → Int) (al : Int → Nat) (sp : Int → SpT) (u q : Int) (hh : 0 ≤ u ∧ u < n) (hn : 0 ≤ n ∧ n ≤ 24) (hq : 1 ≤ q ∧ q ≤ pg) (hpg : 1 ≤ pg ∧ pg ≤ 300) (hon : ∀ k, on k = 0 ∨ on k = 1) (hrl : RPS on sp n) : Met l yX2_isOn wsX2_isOn ({ frames := 2, cells := 0, slots := 0, locals := 43 }) (CI E [.ref (am 0), .int (iI u), .int (iI q)] (MW E am th pg n on se al)) (QW (some (.int (iI (pI (cov (sp u) q))))) (MW E am 0 pg n on se al) (AM am)) 0 0 (AM am) := by
  refine g_met (cc := cX2_isOn) (maxL := 3) (ret := (some .boolean)) (lv := [(0, .ref (am 0)), (1, .int (iI u)), (2, .int (iI q))]) (by decide) rfl (Nat.le_of_ble_eq_true rfl) rfl ?_
  intro xp xe xs xm xa xb xh xc S xK xr xlk xin
  have kf24 := S.2.2.2.2 (.fieldLink RX2 24 "BookIndexModel" "thrown" "I") (by decide +kernel)
  have hin2 : ∀ w ∈ wsX20, w ∈ wsX2_isOn := by decide +kernel
  refine g_aload_n S dX2_isOn_0 rfl 0 rfl ?_
  refine g_iconst S dX2_isOn_1 ?_
  refine g_put S xK (Wp' := MW E am 0 pg n on se al) (ref := "BookIndexModel") (ty := .int) hin2 tyX2 tyX2_ok nmX2 0 (by decide) (show vwCl[2]? = some (RX2, TX2, 6) from rfl) kf24 (fun _ h9 => h9) rfl (by decide +kernel) rfl rfl (fun _ h => mw_x h) (Nat.le_of_ble_eq_true rfl) (am_in (by omega)) (fun _ _ h hv _ oq => mw_sX hj h hv oq) dX2_isOn_2 ?_
  refine g_aload_n S dX2_isOn_5 rfl 0 rfl ?_
  refine g_iload_n S dX2_isOn_6 rfl 1 rfl ?_
  refine g_callV S xK (As := [.int (iI u)]) (st := []) (stk' := [.int (iI (pI (0 ≤ u ∧ u ≤ n - 1)))]) (Wp' := MW E am 0 pg n on se al) (r := (RX2, TX2, 6)) (m_X2_isHeading l E hj 0 pg n on se al u (by omega) hn) (cwV 1 S.2.2.2.2 gX2_isOn_X2_isHeading rfl rfl rfl (by decide +kernel) ⟨Nat.le_of_ble_eq_true rfl, Nat.le_of_ble_eq_true rfl⟩) rfl rfl rfl rfl (Nat.le_of_ble_eq_true rfl) ⟨Nat.le_of_ble_eq_true rfl, Nat.le_of_ble_eq_true rfl⟩ (fun _ q => q.elim) (fun _ h => mw_x h) (fun _ h => h) (fun _ _ _ h _ _ => h) dX2_isOn_7 ?_
  have z10 := pI_b (0 ≤ u ∧ u ≤ n - 1)
  refine g_if_ne S (tgt := 19) dX2_isOn_10 (by decide) (by omega) (fun c10 => ?_) (fun c10 => ?_)
  · skip
    refine g_aload_n S dX2_isOn_19 rfl 0 rfl ?_
    refine g_iload_n S dX2_isOn_20 rfl 2 rfl ?_
    refine g_callV S xK (As := [.int (iI q)]) (st := []) (stk' := [.int (iI (pI (1 ≤ q ∧ q ≤ pg)))]) (Wp' := MW E am 0 pg n on se al) (r := (RX2, TX2, 6)) (m_X2_isPage l E hj 0 pg n on se al q (by omega) hpg) (cwV 1 S.2.2.2.2 gX2_isOn_X2_isPage rfl rfl rfl (by decide +kernel) ⟨Nat.le_of_ble_eq_true rfl, Nat.le_of_ble_eq_true rfl⟩) rfl rfl rfl rfl (Nat.le_of_ble_eq_true rfl) ⟨Nat.le_of_ble_eq_true rfl, Nat.le_of_ble_eq_true rfl⟩ (fun _ q => q.elim) (fun _ h => mw_x h) (fun _ h => h) (fun _ _ _ h _ _ => h) dX2_isOn_21 ?_
    have z24 := pI_b (1 ≤ q ∧ q ≤ pg)
    refine g_if_eq S (tgt := 36) dX2_isOn_24 (by decide) (by omega) (fun c24 => ?_) (fun c24 => ?_)
    · skip
      exact absurd c24 (by rw [pI_t (P := 1 ≤ q ∧ q ≤ pg) (by omega)]; decide)
    · skip
      refine g_aload_n S dX2_isOn_27 rfl 0 rfl ?_
      refine g_iload_n S dX2_isOn_28 rfl 1 rfl ?_
      refine g_iload_n S dX2_isOn_29 rfl 2 rfl ?_
      refine g_callV S xK (As := [.int (iI u), .int (iI q)]) (st := []) (stk' := [.int (iI (on (302 * u + q)))]) (Wp' := MW E am 0 pg n on se al) (r := (RX2, TX2, 6)) (m_X2_has l E hj 0 pg n on se al u q (by omega) (by omega) hon) (cwV 2 S.2.2.2.2 gX2_isOn_X2_has rfl rfl rfl (by decide +kernel) ⟨Nat.le_of_ble_eq_true rfl, Nat.le_of_ble_eq_true rfl⟩) rfl rfl rfl rfl (Nat.le_of_ble_eq_true rfl) ⟨Nat.le_of_ble_eq_true rfl, Nat.le_of_ble_eq_true rfl⟩ (fun _ q => q.elim) (fun _ h => mw_x h) (fun _ h => h) (fun _ _ _ h _ _ => h) dX2_isOn_30 ?_
      refine g_goto S (tgt := 41) dX2_isOn_33 (by decide) ?_
      rw [show (pI (cov (sp u) q)) = (on (302 * u + q)) from (rl_pI hrl hon (by omega) (by omega)).symm]
      exact g_zret S xr xlk (hon _) dX2_isOn_41 (fun _ h => h)
  · skip
    exact absurd c10 (by rw [pI_t (P := 0 ≤ u ∧ u ≤ n - 1) (by omega)]; decide)
set_option maxHeartbeats 4000000 in
set_option maxRecDepth 100000 in
theorem m_X2_isOnE (l : Launch) (E : EN) {am : Int → Nat} (hj : INM am) (th pg n : Int) (on se : Int → Int) (al : Int → Nat) (u q : Int) (hh : u < 0 ∨ n ≤ u) (hr : -2147483648 ≤ u ∧ u ≤ 2147483647) (hn : 0 ≤ n ∧ n ≤ 24) : Met l yX2_isOn wsX2_isOn ({ frames := 2, cells := 0, slots := 0, locals := 43 }) (CI E [.ref (am 0), .int (iI u), .int (iI q)] (MW E am th pg n on se al)) (QW (some (.int (iI 0))) (MW E am 1 pg n on se al) (AM am)) 0 0 (AM am) := by
  refine g_met (cc := cX2_isOn) (maxL := 3) (ret := (some .boolean)) (lv := [(0, .ref (am 0)), (1, .int (iI u)), (2, .int (iI q))]) (by decide) rfl (Nat.le_of_ble_eq_true rfl) rfl ?_
  intro xp xe xs xm xa xb xh xc S xK xr xlk xin
  have kf24 := S.2.2.2.2 (.fieldLink RX2 24 "BookIndexModel" "thrown" "I") (by decide +kernel)
  have hin2 : ∀ w ∈ wsX20, w ∈ wsX2_isOn := by decide +kernel
  refine g_aload_n S dX2_isOn_0 rfl 0 rfl ?_
  refine g_iconst S dX2_isOn_1 ?_
  refine g_put S xK (Wp' := MW E am 0 pg n on se al) (ref := "BookIndexModel") (ty := .int) hin2 tyX2 tyX2_ok nmX2 0 (by decide) (show vwCl[2]? = some (RX2, TX2, 6) from rfl) kf24 (fun _ h9 => h9) rfl (by decide +kernel) rfl rfl (fun _ h => mw_x h) (Nat.le_of_ble_eq_true rfl) (am_in (by omega)) (fun _ _ h hv _ oq => mw_sX hj h hv oq) dX2_isOn_2 ?_
  refine g_aload_n S dX2_isOn_5 rfl 0 rfl ?_
  refine g_iload_n S dX2_isOn_6 rfl 1 rfl ?_
  refine g_callV S xK (As := [.int (iI u)]) (st := []) (stk' := [.int (iI (pI (0 ≤ u ∧ u ≤ n - 1)))]) (Wp' := MW E am 0 pg n on se al) (r := (RX2, TX2, 6)) (m_X2_isHeading l E hj 0 pg n on se al u (by omega) hn) (cwV 1 S.2.2.2.2 gX2_isOn_X2_isHeading rfl rfl rfl (by decide +kernel) ⟨Nat.le_of_ble_eq_true rfl, Nat.le_of_ble_eq_true rfl⟩) rfl rfl rfl rfl (Nat.le_of_ble_eq_true rfl) ⟨Nat.le_of_ble_eq_true rfl, Nat.le_of_ble_eq_true rfl⟩ (fun _ q => q.elim) (fun _ h => mw_x h) (fun _ h => h) (fun _ _ _ h _ _ => h) dX2_isOn_7 ?_
  have z10 := pI_b (0 ≤ u ∧ u ≤ n - 1)
  refine g_if_ne S (tgt := 19) dX2_isOn_10 (by decide) (by omega) (fun c10 => ?_) (fun c10 => ?_)
  · skip
    exact absurd c10 (fun z => z (pI_f (P := 0 ≤ u ∧ u ≤ n - 1) (by omega)))
  · skip
    refine g_aload_n S dX2_isOn_13 rfl 0 rfl ?_
    refine g_iconst S dX2_isOn_14 ?_
    refine g_callV S xK (As := [.int (iI 1)]) (st := []) (stk' := [.int (iI 0)]) (Wp' := MW E am 1 pg n on se al) (r := (RX2, TX2, 6)) (m_X2_isNot l E hj 0 pg n on se al 1 ) (cwV 1 S.2.2.2.2 gX2_isOn_X2_isNot rfl rfl rfl (by decide +kernel) ⟨Nat.le_of_ble_eq_true rfl, Nat.le_of_ble_eq_true rfl⟩) rfl rfl rfl rfl (Nat.le_of_ble_eq_true rfl) ⟨Nat.le_of_ble_eq_true rfl, Nat.le_of_ble_eq_true rfl⟩ (fun _ q => q) (fun _ h => mw_x h) (fun _ h => h) (fun _ _ _ h _ _ => h) dX2_isOn_15 ?_
    exact g_zret S xr xlk (Or.inl rfl) dX2_isOn_18 (fun _ h => h)
set_option maxHeartbeats 4000000 in
set_option maxRecDepth 100000 in
theorem m_X2_isOnF (l : Launch) (E : EN) {am : Int → Nat} (hj : INM am) (th pg n : Int) (on se : Int → Int) (al : Int → Nat) (u q : Int) (hh : 0 ≤ u ∧ u < n) (hn : 0 ≤ n ∧ n ≤ 24) (hq : q < 1 ∨ pg < q) (hr : -2147483648 ≤ q ∧ q ≤ 2147483647) (hpg : 1 ≤ pg ∧ pg ≤ 300) : Met l yX2_isOn wsX2_isOn ({ frames := 2, cells := 0, slots := 0, locals := 43 }) (CI E [.ref (am 0), .int (iI u), .int (iI q)] (MW E am th pg n on se al)) (QW (some (.int (iI 0))) (MW E am 2 pg n on se al) (AM am)) 0 0 (AM am) := by
  refine g_met (cc := cX2_isOn) (maxL := 3) (ret := (some .boolean)) (lv := [(0, .ref (am 0)), (1, .int (iI u)), (2, .int (iI q))]) (by decide) rfl (Nat.le_of_ble_eq_true rfl) rfl ?_
  intro xp xe xs xm xa xb xh xc S xK xr xlk xin
  have kf24 := S.2.2.2.2 (.fieldLink RX2 24 "BookIndexModel" "thrown" "I") (by decide +kernel)
  have hin2 : ∀ w ∈ wsX20, w ∈ wsX2_isOn := by decide +kernel
  refine g_aload_n S dX2_isOn_0 rfl 0 rfl ?_
  refine g_iconst S dX2_isOn_1 ?_
  refine g_put S xK (Wp' := MW E am 0 pg n on se al) (ref := "BookIndexModel") (ty := .int) hin2 tyX2 tyX2_ok nmX2 0 (by decide) (show vwCl[2]? = some (RX2, TX2, 6) from rfl) kf24 (fun _ h9 => h9) rfl (by decide +kernel) rfl rfl (fun _ h => mw_x h) (Nat.le_of_ble_eq_true rfl) (am_in (by omega)) (fun _ _ h hv _ oq => mw_sX hj h hv oq) dX2_isOn_2 ?_
  refine g_aload_n S dX2_isOn_5 rfl 0 rfl ?_
  refine g_iload_n S dX2_isOn_6 rfl 1 rfl ?_
  refine g_callV S xK (As := [.int (iI u)]) (st := []) (stk' := [.int (iI (pI (0 ≤ u ∧ u ≤ n - 1)))]) (Wp' := MW E am 0 pg n on se al) (r := (RX2, TX2, 6)) (m_X2_isHeading l E hj 0 pg n on se al u (by omega) hn) (cwV 1 S.2.2.2.2 gX2_isOn_X2_isHeading rfl rfl rfl (by decide +kernel) ⟨Nat.le_of_ble_eq_true rfl, Nat.le_of_ble_eq_true rfl⟩) rfl rfl rfl rfl (Nat.le_of_ble_eq_true rfl) ⟨Nat.le_of_ble_eq_true rfl, Nat.le_of_ble_eq_true rfl⟩ (fun _ q => q.elim) (fun _ h => mw_x h) (fun _ h => h) (fun _ _ _ h _ _ => h) dX2_isOn_7 ?_
  have z10 := pI_b (0 ≤ u ∧ u ≤ n - 1)
  refine g_if_ne S (tgt := 19) dX2_isOn_10 (by decide) (by omega) (fun c10 => ?_) (fun c10 => ?_)
  · skip
    refine g_aload_n S dX2_isOn_19 rfl 0 rfl ?_
    refine g_iload_n S dX2_isOn_20 rfl 2 rfl ?_
    refine g_callV S xK (As := [.int (iI q)]) (st := []) (stk' := [.int (iI (pI (1 ≤ q ∧ q ≤ pg)))]) (Wp' := MW E am 0 pg n on se al) (r := (RX2, TX2, 6)) (m_X2_isPage l E hj 0 pg n on se al q (by omega) hpg) (cwV 1 S.2.2.2.2 gX2_isOn_X2_isPage rfl rfl rfl (by decide +kernel) ⟨Nat.le_of_ble_eq_true rfl, Nat.le_of_ble_eq_true rfl⟩) rfl rfl rfl rfl (Nat.le_of_ble_eq_true rfl) ⟨Nat.le_of_ble_eq_true rfl, Nat.le_of_ble_eq_true rfl⟩ (fun _ q => q.elim) (fun _ h => mw_x h) (fun _ h => h) (fun _ _ _ h _ _ => h) dX2_isOn_21 ?_
    have z24 := pI_b (1 ≤ q ∧ q ≤ pg)
    refine g_if_eq S (tgt := 36) dX2_isOn_24 (by decide) (by omega) (fun c24 => ?_) (fun c24 => ?_)
    · skip
      refine g_aload_n S dX2_isOn_36 rfl 0 rfl ?_
      refine g_iconst S dX2_isOn_37 ?_
      refine g_callV S xK (As := [.int (iI 2)]) (st := []) (stk' := [.int (iI 0)]) (Wp' := MW E am 2 pg n on se al) (r := (RX2, TX2, 6)) (m_X2_isNot l E hj 0 pg n on se al 2 ) (cwV 1 S.2.2.2.2 gX2_isOn_X2_isNot rfl rfl rfl (by decide +kernel) ⟨Nat.le_of_ble_eq_true rfl, Nat.le_of_ble_eq_true rfl⟩) rfl rfl rfl rfl (Nat.le_of_ble_eq_true rfl) ⟨Nat.le_of_ble_eq_true rfl, Nat.le_of_ble_eq_true rfl⟩ (fun _ q => q) (fun _ h => mw_x h) (fun _ h => h) (fun _ _ _ h _ _ => h) dX2_isOn_38 ?_
      exact g_zret S xr xlk (Or.inl rfl) dX2_isOn_41 (fun _ h => h)
    · skip
      exact absurd c24 (fun z => z (pI_f (P := 1 ≤ q ∧ q ≤ pg) (by omega)))
  · skip
    exact absurd c10 (by rw [pI_t (P := 0 ≤ u ∧ u ≤ n - 1) (by omega)]; decide)
set_option maxHeartbeats 4000000 in
set_option maxRecDepth 100000 in
theorem m_X2_steps (l : Launch) (E : EN) {am : Int → Nat} (hj : INM am) (th pg n : Int) (on se : Int → Int) (al : Int → Nat) (sp : Int → SpT) (u o : Int) (hh : 0 ≤ u ∧ u < n) (hn : 0 ≤ n ∧ n ≤ 24) (ho : 0 ≤ o ∧ o < n) (hgr : GR se al n) : Met l yX2_steps wsX2_steps ({ frames := 2, cells := 0, slots := 0, locals := 48 }) (CI E [.ref (am 0), .int (iI u), .int (iI o)] (MW E am th pg n on se al)) (QW (some (.int (iI (fsS se al n o.toNat 24 (2 ^ u.toNat) 0)))) (MW E am 0 pg n on se al) (AM am)) 0 0 (AM am) := by
  refine g_met (cc := cX2_steps) (maxL := 3) (ret := (some .int)) (lv := [(0, .ref (am 0)), (1, .int (iI u)), (2, .int (iI o))]) (by decide) rfl (Nat.le_of_ble_eq_true rfl) rfl ?_
  intro xp xe xs xm xa xb xh xc S xK xr xlk xin
  have kf24 := S.2.2.2.2 (.fieldLink RX2 24 "BookIndexModel" "thrown" "I") (by decide +kernel)
  have hin2 : ∀ w ∈ wsX20, w ∈ wsX2_steps := by decide +kernel
  refine g_aload_n S dX2_steps_0 rfl 0 rfl ?_
  refine g_iconst S dX2_steps_1 ?_
  refine g_put S xK (Wp' := MW E am 0 pg n on se al) (ref := "BookIndexModel") (ty := .int) hin2 tyX2 tyX2_ok nmX2 0 (by decide) (show vwCl[2]? = some (RX2, TX2, 6) from rfl) kf24 (fun _ h9 => h9) rfl (by decide +kernel) rfl rfl (fun _ h => mw_x h) (Nat.le_of_ble_eq_true rfl) (am_in (by omega)) (fun _ _ h hv _ oq => mw_sX hj h hv oq) dX2_steps_2 ?_
  refine g_aload_n S dX2_steps_5 rfl 0 rfl ?_
  refine g_iload_n S dX2_steps_6 rfl 1 rfl ?_
  refine g_callV S xK (As := [.int (iI u)]) (st := []) (stk' := [.int (iI (pI (0 ≤ u ∧ u ≤ n - 1)))]) (Wp' := MW E am 0 pg n on se al) (r := (RX2, TX2, 6)) (m_X2_isHeading l E hj 0 pg n on se al u (by omega) hn) (cwV 1 S.2.2.2.2 gX2_steps_X2_isHeading rfl rfl rfl (by decide +kernel) ⟨Nat.le_of_ble_eq_true rfl, Nat.le_of_ble_eq_true rfl⟩) rfl rfl rfl rfl (Nat.le_of_ble_eq_true rfl) ⟨Nat.le_of_ble_eq_true rfl, Nat.le_of_ble_eq_true rfl⟩ (fun _ q => q.elim) (fun _ h => mw_x h) (fun _ h => h) (fun _ _ _ h _ _ => h) dX2_steps_7 ?_
  have z10 := pI_b (0 ≤ u ∧ u ≤ n - 1)
  refine g_if_eq S (tgt := 30) dX2_steps_10 (by decide) (by omega) (fun c10 => ?_) (fun c10 => ?_)
  · skip
    exact absurd c10 (by rw [pI_t (P := 0 ≤ u ∧ u ≤ n - 1) (by omega)]; decide)
  · skip
    refine g_aload_n S dX2_steps_13 rfl 0 rfl ?_
    refine g_iload_n S dX2_steps_14 rfl 2 rfl ?_
    refine g_callV S xK (As := [.int (iI o)]) (st := []) (stk' := [.int (iI (pI (0 ≤ o ∧ o ≤ n - 1)))]) (Wp' := MW E am 0 pg n on se al) (r := (RX2, TX2, 6)) (m_X2_isHeading l E hj 0 pg n on se al o (by omega) hn) (cwV 1 S.2.2.2.2 gX2_steps_X2_isHeading rfl rfl rfl (by decide +kernel) ⟨Nat.le_of_ble_eq_true rfl, Nat.le_of_ble_eq_true rfl⟩) rfl rfl rfl rfl (Nat.le_of_ble_eq_true rfl) ⟨Nat.le_of_ble_eq_true rfl, Nat.le_of_ble_eq_true rfl⟩ (fun _ q => q.elim) (fun _ h => mw_x h) (fun _ h => h) (fun _ _ _ h _ _ => h) dX2_steps_15 ?_
    have z18 := pI_b (0 ≤ o ∧ o ≤ n - 1)
    refine g_if_eq S (tgt := 30) dX2_steps_18 (by decide) (by omega) (fun c18 => ?_) (fun c18 => ?_)
    · skip
      exact absurd c18 (by rw [pI_t (P := 0 ≤ o ∧ o ≤ n - 1) (by omega)]; decide)
    · skip
      refine g_aload_n S dX2_steps_21 rfl 0 rfl ?_
      refine g_iload_n S dX2_steps_22 rfl 1 rfl ?_
      refine g_iload_n S dX2_steps_23 rfl 2 rfl ?_
      refine g_callV S xK (As := [.int (iI u), .int (iI o)]) (st := []) (stk' := [.int (iI (fsS se al n o.toNat 24 (2 ^ u.toNat) 0))]) (Wp' := MW E am 0 pg n on se al) (r := (RX2, TX2, 6)) (m_X2_far l E hj 0 pg n on se al u o (by omega) (by omega) hn hgr) (cwV 2 S.2.2.2.2 gX2_steps_X2_far rfl rfl rfl (by decide +kernel) ⟨Nat.le_of_ble_eq_true rfl, Nat.le_of_ble_eq_true rfl⟩) rfl rfl rfl rfl (Nat.le_of_ble_eq_true rfl) ⟨Nat.le_of_ble_eq_true rfl, Nat.le_of_ble_eq_true rfl⟩ (fun _ q => q.elim) (fun _ h => mw_x h) (fun _ h => h) (fun _ _ _ h _ _ => h) dX2_steps_24 ?_
      refine g_goto S (tgt := 35) dX2_steps_27 (by decide) ?_
      exact g_iret S xr xlk dX2_steps_35 (fun _ h => h)
set_option maxHeartbeats 4000000 in
set_option maxRecDepth 100000 in
theorem m_X2_stepsE (l : Launch) (E : EN) {am : Int → Nat} (hj : INM am) (th pg n : Int) (on se : Int → Int) (al : Int → Nat) (u o : Int) (hh : u < 0 ∨ n ≤ u) (hr : -2147483648 ≤ u ∧ u ≤ 2147483647) (hn : 0 ≤ n ∧ n ≤ 24) : Met l yX2_steps wsX2_steps ({ frames := 2, cells := 0, slots := 0, locals := 43 }) (CI E [.ref (am 0), .int (iI u), .int (iI o)] (MW E am th pg n on se al)) (QW (some (.int (iI 0))) (MW E am 1 pg n on se al) (AM am)) 0 0 (AM am) := by
  refine g_met (cc := cX2_steps) (maxL := 3) (ret := (some .int)) (lv := [(0, .ref (am 0)), (1, .int (iI u)), (2, .int (iI o))]) (by decide) rfl (Nat.le_of_ble_eq_true rfl) rfl ?_
  intro xp xe xs xm xa xb xh xc S xK xr xlk xin
  have kf24 := S.2.2.2.2 (.fieldLink RX2 24 "BookIndexModel" "thrown" "I") (by decide +kernel)
  have hin2 : ∀ w ∈ wsX20, w ∈ wsX2_steps := by decide +kernel
  refine g_aload_n S dX2_steps_0 rfl 0 rfl ?_
  refine g_iconst S dX2_steps_1 ?_
  refine g_put S xK (Wp' := MW E am 0 pg n on se al) (ref := "BookIndexModel") (ty := .int) hin2 tyX2 tyX2_ok nmX2 0 (by decide) (show vwCl[2]? = some (RX2, TX2, 6) from rfl) kf24 (fun _ h9 => h9) rfl (by decide +kernel) rfl rfl (fun _ h => mw_x h) (Nat.le_of_ble_eq_true rfl) (am_in (by omega)) (fun _ _ h hv _ oq => mw_sX hj h hv oq) dX2_steps_2 ?_
  refine g_aload_n S dX2_steps_5 rfl 0 rfl ?_
  refine g_iload_n S dX2_steps_6 rfl 1 rfl ?_
  refine g_callV S xK (As := [.int (iI u)]) (st := []) (stk' := [.int (iI (pI (0 ≤ u ∧ u ≤ n - 1)))]) (Wp' := MW E am 0 pg n on se al) (r := (RX2, TX2, 6)) (m_X2_isHeading l E hj 0 pg n on se al u (by omega) hn) (cwV 1 S.2.2.2.2 gX2_steps_X2_isHeading rfl rfl rfl (by decide +kernel) ⟨Nat.le_of_ble_eq_true rfl, Nat.le_of_ble_eq_true rfl⟩) rfl rfl rfl rfl (Nat.le_of_ble_eq_true rfl) ⟨Nat.le_of_ble_eq_true rfl, Nat.le_of_ble_eq_true rfl⟩ (fun _ q => q.elim) (fun _ h => mw_x h) (fun _ h => h) (fun _ _ _ h _ _ => h) dX2_steps_7 ?_
  have z10 := pI_b (0 ≤ u ∧ u ≤ n - 1)
  refine g_if_eq S (tgt := 30) dX2_steps_10 (by decide) (by omega) (fun c10 => ?_) (fun c10 => ?_)
  · skip
    refine g_aload_n S dX2_steps_30 rfl 0 rfl ?_
    refine g_iconst S dX2_steps_31 ?_
    refine g_callV S xK (As := [.int (iI 1)]) (st := []) (stk' := [.int (iI 0)]) (Wp' := MW E am 1 pg n on se al) (r := (RX2, TX2, 6)) (m_X2_no l E hj 0 pg n on se al 1 ) (cwV 1 S.2.2.2.2 gX2_steps_X2_no rfl rfl rfl (by decide +kernel) ⟨Nat.le_of_ble_eq_true rfl, Nat.le_of_ble_eq_true rfl⟩) rfl rfl rfl rfl (Nat.le_of_ble_eq_true rfl) ⟨Nat.le_of_ble_eq_true rfl, Nat.le_of_ble_eq_true rfl⟩ (fun _ q => q) (fun _ h => mw_x h) (fun _ h => h) (fun _ _ _ h _ _ => h) dX2_steps_32 ?_
    exact g_iret S xr xlk dX2_steps_35 (fun _ h => h)
  · skip
    exact absurd c10 (fun z => z (pI_f (P := 0 ≤ u ∧ u ≤ n - 1) (by omega)))
set_option maxHeartbeats 4000000 in
set_option maxRecDepth 100000 in
theorem m_X2_stepsF (l : Launch) (E : EN) {am : Int → Nat} (hj : INM am) (th pg n : Int) (on se : Int → Int) (al : Int → Nat) (u o : Int) (hh : 0 ≤ u ∧ u < n) (hn : 0 ≤ n ∧ n ≤ 24) (ho : o < 0 ∨ n ≤ o) (hr : -2147483648 ≤ o ∧ o ≤ 2147483647) : Met l yX2_steps wsX2_steps ({ frames := 2, cells := 0, slots := 0, locals := 43 }) (CI E [.ref (am 0), .int (iI u), .int (iI o)] (MW E am th pg n on se al)) (QW (some (.int (iI 0))) (MW E am 1 pg n on se al) (AM am)) 0 0 (AM am) := by
  refine g_met (cc := cX2_steps) (maxL := 3) (ret := (some .int)) (lv := [(0, .ref (am 0)), (1, .int (iI u)), (2, .int (iI o))]) (by decide) rfl (Nat.le_of_ble_eq_true rfl) rfl ?_
  intro xp xe xs xm xa xb xh xc S xK xr xlk xin
  have kf24 := S.2.2.2.2 (.fieldLink RX2 24 "BookIndexModel" "thrown" "I") (by decide +kernel)
  have hin2 : ∀ w ∈ wsX20, w ∈ wsX2_steps := by decide +kernel
  refine g_aload_n S dX2_steps_0 rfl 0 rfl ?_
  refine g_iconst S dX2_steps_1 ?_
  refine g_put S xK (Wp' := MW E am 0 pg n on se al) (ref := "BookIndexModel") (ty := .int) hin2 tyX2 tyX2_ok nmX2 0 (by decide) (show vwCl[2]? = some (RX2, TX2, 6) from rfl) kf24 (fun _ h9 => h9) rfl (by decide +kernel) rfl rfl (fun _ h => mw_x h) (Nat.le_of_ble_eq_true rfl) (am_in (by omega)) (fun _ _ h hv _ oq => mw_sX hj h hv oq) dX2_steps_2 ?_
  refine g_aload_n S dX2_steps_5 rfl 0 rfl ?_
  refine g_iload_n S dX2_steps_6 rfl 1 rfl ?_
  refine g_callV S xK (As := [.int (iI u)]) (st := []) (stk' := [.int (iI (pI (0 ≤ u ∧ u ≤ n - 1)))]) (Wp' := MW E am 0 pg n on se al) (r := (RX2, TX2, 6)) (m_X2_isHeading l E hj 0 pg n on se al u (by omega) hn) (cwV 1 S.2.2.2.2 gX2_steps_X2_isHeading rfl rfl rfl (by decide +kernel) ⟨Nat.le_of_ble_eq_true rfl, Nat.le_of_ble_eq_true rfl⟩) rfl rfl rfl rfl (Nat.le_of_ble_eq_true rfl) ⟨Nat.le_of_ble_eq_true rfl, Nat.le_of_ble_eq_true rfl⟩ (fun _ q => q.elim) (fun _ h => mw_x h) (fun _ h => h) (fun _ _ _ h _ _ => h) dX2_steps_7 ?_
  have z10 := pI_b (0 ≤ u ∧ u ≤ n - 1)
  refine g_if_eq S (tgt := 30) dX2_steps_10 (by decide) (by omega) (fun c10 => ?_) (fun c10 => ?_)
  · skip
    exact absurd c10 (by rw [pI_t (P := 0 ≤ u ∧ u ≤ n - 1) (by omega)]; decide)
  · skip
    refine g_aload_n S dX2_steps_13 rfl 0 rfl ?_
    refine g_iload_n S dX2_steps_14 rfl 2 rfl ?_
    refine g_callV S xK (As := [.int (iI o)]) (st := []) (stk' := [.int (iI (pI (0 ≤ o ∧ o ≤ n - 1)))]) (Wp' := MW E am 0 pg n on se al) (r := (RX2, TX2, 6)) (m_X2_isHeading l E hj 0 pg n on se al o (by omega) hn) (cwV 1 S.2.2.2.2 gX2_steps_X2_isHeading rfl rfl rfl (by decide +kernel) ⟨Nat.le_of_ble_eq_true rfl, Nat.le_of_ble_eq_true rfl⟩) rfl rfl rfl rfl (Nat.le_of_ble_eq_true rfl) ⟨Nat.le_of_ble_eq_true rfl, Nat.le_of_ble_eq_true rfl⟩ (fun _ q => q.elim) (fun _ h => mw_x h) (fun _ h => h) (fun _ _ _ h _ _ => h) dX2_steps_15 ?_
    have z18 := pI_b (0 ≤ o ∧ o ≤ n - 1)
    refine g_if_eq S (tgt := 30) dX2_steps_18 (by decide) (by omega) (fun c18 => ?_) (fun c18 => ?_)
    · skip
      refine g_aload_n S dX2_steps_30 rfl 0 rfl ?_
      refine g_iconst S dX2_steps_31 ?_
      refine g_callV S xK (As := [.int (iI 1)]) (st := []) (stk' := [.int (iI 0)]) (Wp' := MW E am 1 pg n on se al) (r := (RX2, TX2, 6)) (m_X2_no l E hj 0 pg n on se al 1 ) (cwV 1 S.2.2.2.2 gX2_steps_X2_no rfl rfl rfl (by decide +kernel) ⟨Nat.le_of_ble_eq_true rfl, Nat.le_of_ble_eq_true rfl⟩) rfl rfl rfl rfl (Nat.le_of_ble_eq_true rfl) ⟨Nat.le_of_ble_eq_true rfl, Nat.le_of_ble_eq_true rfl⟩ (fun _ q => q) (fun _ h => mw_x h) (fun _ h => h) (fun _ _ _ h _ _ => h) dX2_steps_32 ?_
      exact g_iret S xr xlk dX2_steps_35 (fun _ h => h)
    · skip
      exact absurd c18 (fun z => z (pI_f (P := 0 ≤ o ∧ o ≤ n - 1) (by omega)))
set_option maxHeartbeats 4000000 in
set_option maxRecDepth 100000 in
theorem m_X2_commonPages (l : Launch) (E : EN) {am : Int → Nat} (hj : INM am) (th pg n : Int) (on se : Int → Int) (al : Int → Nat) (sp : Int → SpT) (u o : Int) (hh : 0 ≤ u ∧ u < n) (hn : 0 ≤ n ∧ n ≤ 24) (ho : 0 ≤ o ∧ o < n) (hpg : 1 ≤ pg ∧ pg ≤ 300) (hrl : RPS on sp n) (hsp : SPV sp n pg) (hon : ∀ k, on k = 0 ∨ on k = 1) : Met l yX2_commonPages wsX2_commonPages ({ frames := 2, cells := 0, slots := 0, locals := 46 }) (CI E [.ref (am 0), .int (iI u), .int (iI o)] (MW E am th pg n on se al)) (QW (some (.int (iI (smI (fun r => pI (cov (sp u) (r + 1) ∧ cov (sp o) (r + 1))) pg.toNat)))) (MW E am 0 pg n on se al) (AM am)) 0 0 (AM am) := by
  refine g_met (cc := cX2_commonPages) (maxL := 3) (ret := (some .int)) (lv := [(0, .ref (am 0)), (1, .int (iI u)), (2, .int (iI o))]) (by decide) rfl (Nat.le_of_ble_eq_true rfl) rfl ?_
  intro xp xe xs xm xa xb xh xc S xK xr xlk xin
  have kf24 := S.2.2.2.2 (.fieldLink RX2 24 "BookIndexModel" "thrown" "I") (by decide +kernel)
  have hin2 : ∀ w ∈ wsX20, w ∈ wsX2_commonPages := by decide +kernel
  refine g_aload_n S dX2_commonPages_0 rfl 0 rfl ?_
  refine g_iconst S dX2_commonPages_1 ?_
  refine g_put S xK (Wp' := MW E am 0 pg n on se al) (ref := "BookIndexModel") (ty := .int) hin2 tyX2 tyX2_ok nmX2 0 (by decide) (show vwCl[2]? = some (RX2, TX2, 6) from rfl) kf24 (fun _ h9 => h9) rfl (by decide +kernel) rfl rfl (fun _ h => mw_x h) (Nat.le_of_ble_eq_true rfl) (am_in (by omega)) (fun _ _ h hv _ oq => mw_sX hj h hv oq) dX2_commonPages_2 ?_
  refine g_aload_n S dX2_commonPages_5 rfl 0 rfl ?_
  refine g_iload_n S dX2_commonPages_6 rfl 1 rfl ?_
  refine g_callV S xK (As := [.int (iI u)]) (st := []) (stk' := [.int (iI (pI (0 ≤ u ∧ u ≤ n - 1)))]) (Wp' := MW E am 0 pg n on se al) (r := (RX2, TX2, 6)) (m_X2_isHeading l E hj 0 pg n on se al u (by omega) hn) (cwV 1 S.2.2.2.2 gX2_commonPages_X2_isHeading rfl rfl rfl (by decide +kernel) ⟨Nat.le_of_ble_eq_true rfl, Nat.le_of_ble_eq_true rfl⟩) rfl rfl rfl rfl (Nat.le_of_ble_eq_true rfl) ⟨Nat.le_of_ble_eq_true rfl, Nat.le_of_ble_eq_true rfl⟩ (fun _ q => q.elim) (fun _ h => mw_x h) (fun _ h => h) (fun _ _ _ h _ _ => h) dX2_commonPages_7 ?_
  have z10 := pI_b (0 ≤ u ∧ u ≤ n - 1)
  refine g_if_eq S (tgt := 30) dX2_commonPages_10 (by decide) (by omega) (fun c10 => ?_) (fun c10 => ?_)
  · skip
    exact absurd c10 (by rw [pI_t (P := 0 ≤ u ∧ u ≤ n - 1) (by omega)]; decide)
  · skip
    refine g_aload_n S dX2_commonPages_13 rfl 0 rfl ?_
    refine g_iload_n S dX2_commonPages_14 rfl 2 rfl ?_
    refine g_callV S xK (As := [.int (iI o)]) (st := []) (stk' := [.int (iI (pI (0 ≤ o ∧ o ≤ n - 1)))]) (Wp' := MW E am 0 pg n on se al) (r := (RX2, TX2, 6)) (m_X2_isHeading l E hj 0 pg n on se al o (by omega) hn) (cwV 1 S.2.2.2.2 gX2_commonPages_X2_isHeading rfl rfl rfl (by decide +kernel) ⟨Nat.le_of_ble_eq_true rfl, Nat.le_of_ble_eq_true rfl⟩) rfl rfl rfl rfl (Nat.le_of_ble_eq_true rfl) ⟨Nat.le_of_ble_eq_true rfl, Nat.le_of_ble_eq_true rfl⟩ (fun _ q => q.elim) (fun _ h => mw_x h) (fun _ h => h) (fun _ _ _ h _ _ => h) dX2_commonPages_15 ?_
    have z18 := pI_b (0 ≤ o ∧ o ≤ n - 1)
    refine g_if_eq S (tgt := 30) dX2_commonPages_18 (by decide) (by omega) (fun c18 => ?_) (fun c18 => ?_)
    · skip
      exact absurd c18 (by rw [pI_t (P := 0 ≤ o ∧ o ≤ n - 1) (by omega)]; decide)
    · skip
      refine g_aload_n S dX2_commonPages_21 rfl 0 rfl ?_
      refine g_iload_n S dX2_commonPages_22 rfl 1 rfl ?_
      refine g_iload_n S dX2_commonPages_23 rfl 2 rfl ?_
      refine g_callV S xK (As := [.int (iI u), .int (iI o)]) (st := []) (stk' := [.int (iI (smI (fun k => pI (on (302 * u + (k + 1)) = 1 ∧ on (302 * o + (k + 1)) = 1)) pg.toNat))]) (Wp' := MW E am 0 pg n on se al) (r := (RX2, TX2, 6)) (m_X2_common l E hj 0 pg n on se al u o (by omega) (by omega) hpg hon) (cwV 2 S.2.2.2.2 gX2_commonPages_X2_common rfl rfl rfl (by decide +kernel) ⟨Nat.le_of_ble_eq_true rfl, Nat.le_of_ble_eq_true rfl⟩) rfl rfl rfl rfl (Nat.le_of_ble_eq_true rfl) ⟨Nat.le_of_ble_eq_true rfl, Nat.le_of_ble_eq_true rfl⟩ (fun _ q => q.elim) (fun _ h => mw_x h) (fun _ h => h) (fun _ _ _ h _ _ => h) dX2_commonPages_24 ?_
      refine g_goto S (tgt := 35) dX2_commonPages_27 (by decide) ?_
      rw [show (smI (fun r => pI (cov (sp u) (r + 1) ∧ cov (sp o) (r + 1))) pg.toNat) = (smI (fun k => pI (on (302 * u + (k + 1)) = 1 ∧ on (302 * o + (k + 1)) = 1)) pg.toNat) from (rl_common hrl (by omega) (by omega) (by omega)).symm]
      exact g_iret S xr xlk dX2_commonPages_35 (fun _ h => h)
set_option maxHeartbeats 4000000 in
set_option maxRecDepth 100000 in
theorem m_X2_commonPagesE (l : Launch) (E : EN) {am : Int → Nat} (hj : INM am) (th pg n : Int) (on se : Int → Int) (al : Int → Nat) (u o : Int) (hh : u < 0 ∨ n ≤ u) (hr : -2147483648 ≤ u ∧ u ≤ 2147483647) (hn : 0 ≤ n ∧ n ≤ 24) : Met l yX2_commonPages wsX2_commonPages ({ frames := 2, cells := 0, slots := 0, locals := 43 }) (CI E [.ref (am 0), .int (iI u), .int (iI o)] (MW E am th pg n on se al)) (QW (some (.int (iI 0))) (MW E am 1 pg n on se al) (AM am)) 0 0 (AM am) := by
  refine g_met (cc := cX2_commonPages) (maxL := 3) (ret := (some .int)) (lv := [(0, .ref (am 0)), (1, .int (iI u)), (2, .int (iI o))]) (by decide) rfl (Nat.le_of_ble_eq_true rfl) rfl ?_
  intro xp xe xs xm xa xb xh xc S xK xr xlk xin
  have kf24 := S.2.2.2.2 (.fieldLink RX2 24 "BookIndexModel" "thrown" "I") (by decide +kernel)
  have hin2 : ∀ w ∈ wsX20, w ∈ wsX2_commonPages := by decide +kernel
  refine g_aload_n S dX2_commonPages_0 rfl 0 rfl ?_
  refine g_iconst S dX2_commonPages_1 ?_
  refine g_put S xK (Wp' := MW E am 0 pg n on se al) (ref := "BookIndexModel") (ty := .int) hin2 tyX2 tyX2_ok nmX2 0 (by decide) (show vwCl[2]? = some (RX2, TX2, 6) from rfl) kf24 (fun _ h9 => h9) rfl (by decide +kernel) rfl rfl (fun _ h => mw_x h) (Nat.le_of_ble_eq_true rfl) (am_in (by omega)) (fun _ _ h hv _ oq => mw_sX hj h hv oq) dX2_commonPages_2 ?_
  refine g_aload_n S dX2_commonPages_5 rfl 0 rfl ?_
  refine g_iload_n S dX2_commonPages_6 rfl 1 rfl ?_
  refine g_callV S xK (As := [.int (iI u)]) (st := []) (stk' := [.int (iI (pI (0 ≤ u ∧ u ≤ n - 1)))]) (Wp' := MW E am 0 pg n on se al) (r := (RX2, TX2, 6)) (m_X2_isHeading l E hj 0 pg n on se al u (by omega) hn) (cwV 1 S.2.2.2.2 gX2_commonPages_X2_isHeading rfl rfl rfl (by decide +kernel) ⟨Nat.le_of_ble_eq_true rfl, Nat.le_of_ble_eq_true rfl⟩) rfl rfl rfl rfl (Nat.le_of_ble_eq_true rfl) ⟨Nat.le_of_ble_eq_true rfl, Nat.le_of_ble_eq_true rfl⟩ (fun _ q => q.elim) (fun _ h => mw_x h) (fun _ h => h) (fun _ _ _ h _ _ => h) dX2_commonPages_7 ?_
  have z10 := pI_b (0 ≤ u ∧ u ≤ n - 1)
  refine g_if_eq S (tgt := 30) dX2_commonPages_10 (by decide) (by omega) (fun c10 => ?_) (fun c10 => ?_)
  · skip
    refine g_aload_n S dX2_commonPages_30 rfl 0 rfl ?_
    refine g_iconst S dX2_commonPages_31 ?_
    refine g_callV S xK (As := [.int (iI 1)]) (st := []) (stk' := [.int (iI 0)]) (Wp' := MW E am 1 pg n on se al) (r := (RX2, TX2, 6)) (m_X2_no l E hj 0 pg n on se al 1 ) (cwV 1 S.2.2.2.2 gX2_commonPages_X2_no rfl rfl rfl (by decide +kernel) ⟨Nat.le_of_ble_eq_true rfl, Nat.le_of_ble_eq_true rfl⟩) rfl rfl rfl rfl (Nat.le_of_ble_eq_true rfl) ⟨Nat.le_of_ble_eq_true rfl, Nat.le_of_ble_eq_true rfl⟩ (fun _ q => q) (fun _ h => mw_x h) (fun _ h => h) (fun _ _ _ h _ _ => h) dX2_commonPages_32 ?_
    exact g_iret S xr xlk dX2_commonPages_35 (fun _ h => h)
  · skip
    exact absurd c10 (fun z => z (pI_f (P := 0 ≤ u ∧ u ≤ n - 1) (by omega)))
set_option maxHeartbeats 4000000 in
set_option maxRecDepth 100000 in
theorem m_X2_commonPagesF (l : Launch) (E : EN) {am : Int → Nat} (hj : INM am) (th pg n : Int) (on se : Int → Int) (al : Int → Nat) (u o : Int) (hh : 0 ≤ u ∧ u < n) (hn : 0 ≤ n ∧ n ≤ 24) (ho : o < 0 ∨ n ≤ o) (hr : -2147483648 ≤ o ∧ o ≤ 2147483647) : Met l yX2_commonPages wsX2_commonPages ({ frames := 2, cells := 0, slots := 0, locals := 43 }) (CI E [.ref (am 0), .int (iI u), .int (iI o)] (MW E am th pg n on se al)) (QW (some (.int (iI 0))) (MW E am 1 pg n on se al) (AM am)) 0 0 (AM am) := by
  refine g_met (cc := cX2_commonPages) (maxL := 3) (ret := (some .int)) (lv := [(0, .ref (am 0)), (1, .int (iI u)), (2, .int (iI o))]) (by decide) rfl (Nat.le_of_ble_eq_true rfl) rfl ?_
  intro xp xe xs xm xa xb xh xc S xK xr xlk xin
  have kf24 := S.2.2.2.2 (.fieldLink RX2 24 "BookIndexModel" "thrown" "I") (by decide +kernel)
  have hin2 : ∀ w ∈ wsX20, w ∈ wsX2_commonPages := by decide +kernel
  refine g_aload_n S dX2_commonPages_0 rfl 0 rfl ?_
  refine g_iconst S dX2_commonPages_1 ?_
  refine g_put S xK (Wp' := MW E am 0 pg n on se al) (ref := "BookIndexModel") (ty := .int) hin2 tyX2 tyX2_ok nmX2 0 (by decide) (show vwCl[2]? = some (RX2, TX2, 6) from rfl) kf24 (fun _ h9 => h9) rfl (by decide +kernel) rfl rfl (fun _ h => mw_x h) (Nat.le_of_ble_eq_true rfl) (am_in (by omega)) (fun _ _ h hv _ oq => mw_sX hj h hv oq) dX2_commonPages_2 ?_
  refine g_aload_n S dX2_commonPages_5 rfl 0 rfl ?_
  refine g_iload_n S dX2_commonPages_6 rfl 1 rfl ?_
  refine g_callV S xK (As := [.int (iI u)]) (st := []) (stk' := [.int (iI (pI (0 ≤ u ∧ u ≤ n - 1)))]) (Wp' := MW E am 0 pg n on se al) (r := (RX2, TX2, 6)) (m_X2_isHeading l E hj 0 pg n on se al u (by omega) hn) (cwV 1 S.2.2.2.2 gX2_commonPages_X2_isHeading rfl rfl rfl (by decide +kernel) ⟨Nat.le_of_ble_eq_true rfl, Nat.le_of_ble_eq_true rfl⟩) rfl rfl rfl rfl (Nat.le_of_ble_eq_true rfl) ⟨Nat.le_of_ble_eq_true rfl, Nat.le_of_ble_eq_true rfl⟩ (fun _ q => q.elim) (fun _ h => mw_x h) (fun _ h => h) (fun _ _ _ h _ _ => h) dX2_commonPages_7 ?_
  have z10 := pI_b (0 ≤ u ∧ u ≤ n - 1)
  refine g_if_eq S (tgt := 30) dX2_commonPages_10 (by decide) (by omega) (fun c10 => ?_) (fun c10 => ?_)
  · skip
    exact absurd c10 (by rw [pI_t (P := 0 ≤ u ∧ u ≤ n - 1) (by omega)]; decide)
  · skip
    refine g_aload_n S dX2_commonPages_13 rfl 0 rfl ?_
    refine g_iload_n S dX2_commonPages_14 rfl 2 rfl ?_
    refine g_callV S xK (As := [.int (iI o)]) (st := []) (stk' := [.int (iI (pI (0 ≤ o ∧ o ≤ n - 1)))]) (Wp' := MW E am 0 pg n on se al) (r := (RX2, TX2, 6)) (m_X2_isHeading l E hj 0 pg n on se al o (by omega) hn) (cwV 1 S.2.2.2.2 gX2_commonPages_X2_isHeading rfl rfl rfl (by decide +kernel) ⟨Nat.le_of_ble_eq_true rfl, Nat.le_of_ble_eq_true rfl⟩) rfl rfl rfl rfl (Nat.le_of_ble_eq_true rfl) ⟨Nat.le_of_ble_eq_true rfl, Nat.le_of_ble_eq_true rfl⟩ (fun _ q => q.elim) (fun _ h => mw_x h) (fun _ h => h) (fun _ _ _ h _ _ => h) dX2_commonPages_15 ?_
    have z18 := pI_b (0 ≤ o ∧ o ≤ n - 1)
    refine g_if_eq S (tgt := 30) dX2_commonPages_18 (by decide) (by omega) (fun c18 => ?_) (fun c18 => ?_)
    · skip
      refine g_aload_n S dX2_commonPages_30 rfl 0 rfl ?_
      refine g_iconst S dX2_commonPages_31 ?_
      refine g_callV S xK (As := [.int (iI 1)]) (st := []) (stk' := [.int (iI 0)]) (Wp' := MW E am 1 pg n on se al) (r := (RX2, TX2, 6)) (m_X2_no l E hj 0 pg n on se al 1 ) (cwV 1 S.2.2.2.2 gX2_commonPages_X2_no rfl rfl rfl (by decide +kernel) ⟨Nat.le_of_ble_eq_true rfl, Nat.le_of_ble_eq_true rfl⟩) rfl rfl rfl rfl (Nat.le_of_ble_eq_true rfl) ⟨Nat.le_of_ble_eq_true rfl, Nat.le_of_ble_eq_true rfl⟩ (fun _ q => q) (fun _ h => mw_x h) (fun _ h => h) (fun _ _ _ h _ _ => h) dX2_commonPages_32 ?_
      exact g_iret S xr xlk dX2_commonPages_35 (fun _ h => h)
    · skip
      exact absurd c18 (fun z => z (pI_f (P := 0 ≤ o ∧ o ≤ n - 1) (by omega)))
set_option maxHeartbeats 4000000 in
set_option maxRecDepth 100000 in
theorem m_X2_spansTogether (l : Launch) (E : EN) {am : Int → Nat} (hj : INM am) (th pg n : Int) (on se : Int → Int) (al : Int → Nat) (sp : Int → SpT) (u o : Int) (hh : 0 ≤ u ∧ u < n) (hn : 0 ≤ n ∧ n ≤ 24) (ho : 0 ≤ o ∧ o < n) (hpg : 1 ≤ pg ∧ pg ≤ 300) (hrl : RPS on sp n) (hsp : SPV sp n pg) (hon : ∀ k, on k = 0 ∨ on k = 1) : Met l yX2_spansTogether wsX2_spansTogether ({ frames := 2, cells := 0, slots := 0, locals := 48 }) (CI E [.ref (am 0), .int (iI u), .int (iI o)] (MW E am th pg n on se al)) (QW (some (.int (iI ((spS (fun q => cov (sp u) q ∨ cov (sp o) q) 0 pg.toNat).1)))) (MW E am 0 pg n on se al) (AM am)) 0 0 (AM am) := by
  refine g_met (cc := cX2_spansTogether) (maxL := 3) (ret := (some .int)) (lv := [(0, .ref (am 0)), (1, .int (iI u)), (2, .int (iI o))]) (by decide) rfl (Nat.le_of_ble_eq_true rfl) rfl ?_
  intro xp xe xs xm xa xb xh xc S xK xr xlk xin
  have kf24 := S.2.2.2.2 (.fieldLink RX2 24 "BookIndexModel" "thrown" "I") (by decide +kernel)
  have hin2 : ∀ w ∈ wsX20, w ∈ wsX2_spansTogether := by decide +kernel
  refine g_aload_n S dX2_spansTogether_0 rfl 0 rfl ?_
  refine g_iconst S dX2_spansTogether_1 ?_
  refine g_put S xK (Wp' := MW E am 0 pg n on se al) (ref := "BookIndexModel") (ty := .int) hin2 tyX2 tyX2_ok nmX2 0 (by decide) (show vwCl[2]? = some (RX2, TX2, 6) from rfl) kf24 (fun _ h9 => h9) rfl (by decide +kernel) rfl rfl (fun _ h => mw_x h) (Nat.le_of_ble_eq_true rfl) (am_in (by omega)) (fun _ _ h hv _ oq => mw_sX hj h hv oq) dX2_spansTogether_2 ?_
  refine g_aload_n S dX2_spansTogether_5 rfl 0 rfl ?_
  refine g_iload_n S dX2_spansTogether_6 rfl 1 rfl ?_
  refine g_callV S xK (As := [.int (iI u)]) (st := []) (stk' := [.int (iI (pI (0 ≤ u ∧ u ≤ n - 1)))]) (Wp' := MW E am 0 pg n on se al) (r := (RX2, TX2, 6)) (m_X2_isHeading l E hj 0 pg n on se al u (by omega) hn) (cwV 1 S.2.2.2.2 gX2_spansTogether_X2_isHeading rfl rfl rfl (by decide +kernel) ⟨Nat.le_of_ble_eq_true rfl, Nat.le_of_ble_eq_true rfl⟩) rfl rfl rfl rfl (Nat.le_of_ble_eq_true rfl) ⟨Nat.le_of_ble_eq_true rfl, Nat.le_of_ble_eq_true rfl⟩ (fun _ q => q.elim) (fun _ h => mw_x h) (fun _ h => h) (fun _ _ _ h _ _ => h) dX2_spansTogether_7 ?_
  have z10 := pI_b (0 ≤ u ∧ u ≤ n - 1)
  refine g_if_eq S (tgt := 31) dX2_spansTogether_10 (by decide) (by omega) (fun c10 => ?_) (fun c10 => ?_)
  · skip
    exact absurd c10 (by rw [pI_t (P := 0 ≤ u ∧ u ≤ n - 1) (by omega)]; decide)
  · skip
    refine g_aload_n S dX2_spansTogether_13 rfl 0 rfl ?_
    refine g_iload_n S dX2_spansTogether_14 rfl 2 rfl ?_
    refine g_callV S xK (As := [.int (iI o)]) (st := []) (stk' := [.int (iI (pI (0 ≤ o ∧ o ≤ n - 1)))]) (Wp' := MW E am 0 pg n on se al) (r := (RX2, TX2, 6)) (m_X2_isHeading l E hj 0 pg n on se al o (by omega) hn) (cwV 1 S.2.2.2.2 gX2_spansTogether_X2_isHeading rfl rfl rfl (by decide +kernel) ⟨Nat.le_of_ble_eq_true rfl, Nat.le_of_ble_eq_true rfl⟩) rfl rfl rfl rfl (Nat.le_of_ble_eq_true rfl) ⟨Nat.le_of_ble_eq_true rfl, Nat.le_of_ble_eq_true rfl⟩ (fun _ q => q.elim) (fun _ h => mw_x h) (fun _ h => h) (fun _ _ _ h _ _ => h) dX2_spansTogether_15 ?_
    have z18 := pI_b (0 ≤ o ∧ o ≤ n - 1)
    refine g_if_eq S (tgt := 31) dX2_spansTogether_18 (by decide) (by omega) (fun c18 => ?_) (fun c18 => ?_)
    · skip
      exact absurd c18 (by rw [pI_t (P := 0 ≤ o ∧ o ≤ n - 1) (by omega)]; decide)
    · skip
      refine g_aload_n S dX2_spansTogether_21 rfl 0 rfl ?_
      refine g_iload_n S dX2_spansTogether_22 rfl 1 rfl ?_
      refine g_iload_n S dX2_spansTogether_23 rfl 2 rfl ?_
      refine g_iconst S dX2_spansTogether_24 ?_
      refine g_callV S xK (As := [.int (iI u), .int (iI o), .int (iI 0)]) (st := []) (stk' := [.int (iI ((spS (fun x => on (302 * u + x) = 1 ∨ on (302 * o + x) = 1) 0 pg.toNat).1))]) (Wp' := MW E am 0 pg n on se al) (r := (RX2, TX2, 6)) (m_X2_spans l E hj 0 pg n on se al u o 0 (by omega) (by omega) (by omega) hpg hon) (cwV 3 S.2.2.2.2 gX2_spansTogether_X2_spans rfl rfl rfl (by decide +kernel) ⟨Nat.le_of_ble_eq_true rfl, Nat.le_of_ble_eq_true rfl⟩) rfl rfl rfl rfl (Nat.le_of_ble_eq_true rfl) ⟨Nat.le_of_ble_eq_true rfl, Nat.le_of_ble_eq_true rfl⟩ (fun _ q => q.elim) (fun _ h => mw_x h) (fun _ h => h) (fun _ _ _ h _ _ => h) dX2_spansTogether_25 ?_
      refine g_goto S (tgt := 36) dX2_spansTogether_28 (by decide) ?_
      rw [show ((spS (fun q => cov (sp u) q ∨ cov (sp o) q) 0 pg.toNat).1) = ((spS (fun x => on (302 * u + x) = 1 ∨ on (302 * o + x) = 1) 0 pg.toNat).1) from (rl_spans hrl (by omega) (by omega) (by omega)).symm]
      exact g_iret S xr xlk dX2_spansTogether_36 (fun _ h => h)
set_option maxHeartbeats 4000000 in
set_option maxRecDepth 100000 in
theorem m_X2_spansTogetherE (l : Launch) (E : EN) {am : Int → Nat} (hj : INM am) (th pg n : Int) (on se : Int → Int) (al : Int → Nat) (u o : Int) (hh : u < 0 ∨ n ≤ u) (hr : -2147483648 ≤ u ∧ u ≤ 2147483647) (hn : 0 ≤ n ∧ n ≤ 24) : Met l yX2_spansTogether wsX2_spansTogether ({ frames := 2, cells := 0, slots := 0, locals := 43 }) (CI E [.ref (am 0), .int (iI u), .int (iI o)] (MW E am th pg n on se al)) (QW (some (.int (iI 0))) (MW E am 1 pg n on se al) (AM am)) 0 0 (AM am) := by
  refine g_met (cc := cX2_spansTogether) (maxL := 3) (ret := (some .int)) (lv := [(0, .ref (am 0)), (1, .int (iI u)), (2, .int (iI o))]) (by decide) rfl (Nat.le_of_ble_eq_true rfl) rfl ?_
  intro xp xe xs xm xa xb xh xc S xK xr xlk xin
  have kf24 := S.2.2.2.2 (.fieldLink RX2 24 "BookIndexModel" "thrown" "I") (by decide +kernel)
  have hin2 : ∀ w ∈ wsX20, w ∈ wsX2_spansTogether := by decide +kernel
  refine g_aload_n S dX2_spansTogether_0 rfl 0 rfl ?_
  refine g_iconst S dX2_spansTogether_1 ?_
  refine g_put S xK (Wp' := MW E am 0 pg n on se al) (ref := "BookIndexModel") (ty := .int) hin2 tyX2 tyX2_ok nmX2 0 (by decide) (show vwCl[2]? = some (RX2, TX2, 6) from rfl) kf24 (fun _ h9 => h9) rfl (by decide +kernel) rfl rfl (fun _ h => mw_x h) (Nat.le_of_ble_eq_true rfl) (am_in (by omega)) (fun _ _ h hv _ oq => mw_sX hj h hv oq) dX2_spansTogether_2 ?_
  refine g_aload_n S dX2_spansTogether_5 rfl 0 rfl ?_
  refine g_iload_n S dX2_spansTogether_6 rfl 1 rfl ?_
  refine g_callV S xK (As := [.int (iI u)]) (st := []) (stk' := [.int (iI (pI (0 ≤ u ∧ u ≤ n - 1)))]) (Wp' := MW E am 0 pg n on se al) (r := (RX2, TX2, 6)) (m_X2_isHeading l E hj 0 pg n on se al u (by omega) hn) (cwV 1 S.2.2.2.2 gX2_spansTogether_X2_isHeading rfl rfl rfl (by decide +kernel) ⟨Nat.le_of_ble_eq_true rfl, Nat.le_of_ble_eq_true rfl⟩) rfl rfl rfl rfl (Nat.le_of_ble_eq_true rfl) ⟨Nat.le_of_ble_eq_true rfl, Nat.le_of_ble_eq_true rfl⟩ (fun _ q => q.elim) (fun _ h => mw_x h) (fun _ h => h) (fun _ _ _ h _ _ => h) dX2_spansTogether_7 ?_
  have z10 := pI_b (0 ≤ u ∧ u ≤ n - 1)
  refine g_if_eq S (tgt := 31) dX2_spansTogether_10 (by decide) (by omega) (fun c10 => ?_) (fun c10 => ?_)
  · skip
    refine g_aload_n S dX2_spansTogether_31 rfl 0 rfl ?_
    refine g_iconst S dX2_spansTogether_32 ?_
    refine g_callV S xK (As := [.int (iI 1)]) (st := []) (stk' := [.int (iI 0)]) (Wp' := MW E am 1 pg n on se al) (r := (RX2, TX2, 6)) (m_X2_no l E hj 0 pg n on se al 1 ) (cwV 1 S.2.2.2.2 gX2_spansTogether_X2_no rfl rfl rfl (by decide +kernel) ⟨Nat.le_of_ble_eq_true rfl, Nat.le_of_ble_eq_true rfl⟩) rfl rfl rfl rfl (Nat.le_of_ble_eq_true rfl) ⟨Nat.le_of_ble_eq_true rfl, Nat.le_of_ble_eq_true rfl⟩ (fun _ q => q) (fun _ h => mw_x h) (fun _ h => h) (fun _ _ _ h _ _ => h) dX2_spansTogether_33 ?_
    exact g_iret S xr xlk dX2_spansTogether_36 (fun _ h => h)
  · skip
    exact absurd c10 (fun z => z (pI_f (P := 0 ≤ u ∧ u ≤ n - 1) (by omega)))
set_option maxHeartbeats 4000000 in
set_option maxRecDepth 100000 in
theorem m_X2_spansTogetherF (l : Launch) (E : EN) {am : Int → Nat} (hj : INM am) (th pg n : Int) (on se : Int → Int) (al : Int → Nat) (u o : Int) (hh : 0 ≤ u ∧ u < n) (hn : 0 ≤ n ∧ n ≤ 24) (ho : o < 0 ∨ n ≤ o) (hr : -2147483648 ≤ o ∧ o ≤ 2147483647) : Met l yX2_spansTogether wsX2_spansTogether ({ frames := 2, cells := 0, slots := 0, locals := 43 }) (CI E [.ref (am 0), .int (iI u), .int (iI o)] (MW E am th pg n on se al)) (QW (some (.int (iI 0))) (MW E am 1 pg n on se al) (AM am)) 0 0 (AM am) := by
  refine g_met (cc := cX2_spansTogether) (maxL := 3) (ret := (some .int)) (lv := [(0, .ref (am 0)), (1, .int (iI u)), (2, .int (iI o))]) (by decide) rfl (Nat.le_of_ble_eq_true rfl) rfl ?_
  intro xp xe xs xm xa xb xh xc S xK xr xlk xin
  have kf24 := S.2.2.2.2 (.fieldLink RX2 24 "BookIndexModel" "thrown" "I") (by decide +kernel)
  have hin2 : ∀ w ∈ wsX20, w ∈ wsX2_spansTogether := by decide +kernel
  refine g_aload_n S dX2_spansTogether_0 rfl 0 rfl ?_
  refine g_iconst S dX2_spansTogether_1 ?_
  refine g_put S xK (Wp' := MW E am 0 pg n on se al) (ref := "BookIndexModel") (ty := .int) hin2 tyX2 tyX2_ok nmX2 0 (by decide) (show vwCl[2]? = some (RX2, TX2, 6) from rfl) kf24 (fun _ h9 => h9) rfl (by decide +kernel) rfl rfl (fun _ h => mw_x h) (Nat.le_of_ble_eq_true rfl) (am_in (by omega)) (fun _ _ h hv _ oq => mw_sX hj h hv oq) dX2_spansTogether_2 ?_
  refine g_aload_n S dX2_spansTogether_5 rfl 0 rfl ?_
  refine g_iload_n S dX2_spansTogether_6 rfl 1 rfl ?_
  refine g_callV S xK (As := [.int (iI u)]) (st := []) (stk' := [.int (iI (pI (0 ≤ u ∧ u ≤ n - 1)))]) (Wp' := MW E am 0 pg n on se al) (r := (RX2, TX2, 6)) (m_X2_isHeading l E hj 0 pg n on se al u (by omega) hn) (cwV 1 S.2.2.2.2 gX2_spansTogether_X2_isHeading rfl rfl rfl (by decide +kernel) ⟨Nat.le_of_ble_eq_true rfl, Nat.le_of_ble_eq_true rfl⟩) rfl rfl rfl rfl (Nat.le_of_ble_eq_true rfl) ⟨Nat.le_of_ble_eq_true rfl, Nat.le_of_ble_eq_true rfl⟩ (fun _ q => q.elim) (fun _ h => mw_x h) (fun _ h => h) (fun _ _ _ h _ _ => h) dX2_spansTogether_7 ?_
  have z10 := pI_b (0 ≤ u ∧ u ≤ n - 1)
  refine g_if_eq S (tgt := 31) dX2_spansTogether_10 (by decide) (by omega) (fun c10 => ?_) (fun c10 => ?_)
  · skip
    exact absurd c10 (by rw [pI_t (P := 0 ≤ u ∧ u ≤ n - 1) (by omega)]; decide)
  · skip
    refine g_aload_n S dX2_spansTogether_13 rfl 0 rfl ?_
    refine g_iload_n S dX2_spansTogether_14 rfl 2 rfl ?_
    refine g_callV S xK (As := [.int (iI o)]) (st := []) (stk' := [.int (iI (pI (0 ≤ o ∧ o ≤ n - 1)))]) (Wp' := MW E am 0 pg n on se al) (r := (RX2, TX2, 6)) (m_X2_isHeading l E hj 0 pg n on se al o (by omega) hn) (cwV 1 S.2.2.2.2 gX2_spansTogether_X2_isHeading rfl rfl rfl (by decide +kernel) ⟨Nat.le_of_ble_eq_true rfl, Nat.le_of_ble_eq_true rfl⟩) rfl rfl rfl rfl (Nat.le_of_ble_eq_true rfl) ⟨Nat.le_of_ble_eq_true rfl, Nat.le_of_ble_eq_true rfl⟩ (fun _ q => q.elim) (fun _ h => mw_x h) (fun _ h => h) (fun _ _ _ h _ _ => h) dX2_spansTogether_15 ?_
    have z18 := pI_b (0 ≤ o ∧ o ≤ n - 1)
    refine g_if_eq S (tgt := 31) dX2_spansTogether_18 (by decide) (by omega) (fun c18 => ?_) (fun c18 => ?_)
    · skip
      refine g_aload_n S dX2_spansTogether_31 rfl 0 rfl ?_
      refine g_iconst S dX2_spansTogether_32 ?_
      refine g_callV S xK (As := [.int (iI 1)]) (st := []) (stk' := [.int (iI 0)]) (Wp' := MW E am 1 pg n on se al) (r := (RX2, TX2, 6)) (m_X2_no l E hj 0 pg n on se al 1 ) (cwV 1 S.2.2.2.2 gX2_spansTogether_X2_no rfl rfl rfl (by decide +kernel) ⟨Nat.le_of_ble_eq_true rfl, Nat.le_of_ble_eq_true rfl⟩) rfl rfl rfl rfl (Nat.le_of_ble_eq_true rfl) ⟨Nat.le_of_ble_eq_true rfl, Nat.le_of_ble_eq_true rfl⟩ (fun _ q => q) (fun _ h => mw_x h) (fun _ h => h) (fun _ _ _ h _ _ => h) dX2_spansTogether_33 ?_
      exact g_iret S xr xlk dX2_spansTogether_36 (fun _ h => h)
    · skip
      exact absurd c18 (fun z => z (pI_f (P := 0 ≤ o ∧ o ≤ n - 1) (by omega)))
set_option maxHeartbeats 4000000 in
set_option maxRecDepth 100000 in
theorem m_X2_spansWithGap (l : Launch) (E : EN) {am : Int → Nat} (hj : INM am) (th pg n : Int) (on se : Int → Int) (al : Int → Nat) (sp : Int → SpT) (u gap : Int) (hh : 0 ≤ u ∧ u < n) (hn : 0 ≤ n ∧ n ≤ 24) (hg : 0 ≤ gap ∧ gap ≤ 100) (hpg : 1 ≤ pg ∧ pg ≤ 300) (hrl : RPS on sp n) (hsp : SPV sp n pg) (hon : ∀ k, on k = 0 ∨ on k = 1) : Met l yX2_spansWithGap wsX2_spansWithGap ({ frames := 2, cells := 0, slots := 0, locals := 48 }) (CI E [.ref (am 0), .int (iI u), .int (iI gap)] (MW E am th pg n on se al)) (QW (some (.int (iI ((spS (cov (sp u)) gap pg.toNat).1)))) (MW E am 0 pg n on se al) (AM am)) 0 0 (AM am) := by
  refine g_met (cc := cX2_spansWithGap) (maxL := 3) (ret := (some .int)) (lv := [(0, .ref (am 0)), (1, .int (iI u)), (2, .int (iI gap))]) (by decide) rfl (Nat.le_of_ble_eq_true rfl) rfl ?_
  intro xp xe xs xm xa xb xh xc S xK xr xlk xin
  have kf24 := S.2.2.2.2 (.fieldLink RX2 24 "BookIndexModel" "thrown" "I") (by decide +kernel)
  have hin2 : ∀ w ∈ wsX20, w ∈ wsX2_spansWithGap := by decide +kernel
  refine g_aload_n S dX2_spansWithGap_0 rfl 0 rfl ?_
  refine g_iconst S dX2_spansWithGap_1 ?_
  refine g_put S xK (Wp' := MW E am 0 pg n on se al) (ref := "BookIndexModel") (ty := .int) hin2 tyX2 tyX2_ok nmX2 0 (by decide) (show vwCl[2]? = some (RX2, TX2, 6) from rfl) kf24 (fun _ h9 => h9) rfl (by decide +kernel) rfl rfl (fun _ h => mw_x h) (Nat.le_of_ble_eq_true rfl) (am_in (by omega)) (fun _ _ h hv _ oq => mw_sX hj h hv oq) dX2_spansWithGap_2 ?_
  refine g_aload_n S dX2_spansWithGap_5 rfl 0 rfl ?_
  refine g_iload_n S dX2_spansWithGap_6 rfl 1 rfl ?_
  refine g_callV S xK (As := [.int (iI u)]) (st := []) (stk' := [.int (iI (pI (0 ≤ u ∧ u ≤ n - 1)))]) (Wp' := MW E am 0 pg n on se al) (r := (RX2, TX2, 6)) (m_X2_isHeading l E hj 0 pg n on se al u (by omega) hn) (cwV 1 S.2.2.2.2 gX2_spansWithGap_X2_isHeading rfl rfl rfl (by decide +kernel) ⟨Nat.le_of_ble_eq_true rfl, Nat.le_of_ble_eq_true rfl⟩) rfl rfl rfl rfl (Nat.le_of_ble_eq_true rfl) ⟨Nat.le_of_ble_eq_true rfl, Nat.le_of_ble_eq_true rfl⟩ (fun _ q => q.elim) (fun _ h => mw_x h) (fun _ h => h) (fun _ _ _ h _ _ => h) dX2_spansWithGap_7 ?_
  have z10 := pI_b (0 ≤ u ∧ u ≤ n - 1)
  refine g_if_ne S (tgt := 19) dX2_spansWithGap_10 (by decide) (by omega) (fun c10 => ?_) (fun c10 => ?_)
  · skip
    refine g_iload_n S dX2_spansWithGap_19 rfl 2 rfl ?_
    refine g_iconst S dX2_spansWithGap_20 ?_
    refine g_bipush S dX2_spansWithGap_21 (by decide) ?_
    refine g_callS S xK (As := [.int (iI gap), .int (iI 0), .int (iI 100)]) (st := []) (stk' := [.int (iI (pI (0 ≤ gap ∧ gap ≤ 100)))]) (Wp' := MW E am 0 pg n on se al) (m_X2_isIn l E (Wp := MW E am 0 pg n on se al) gap 0 100 (by omega)) (cwS 3 S.2.2.2.2 gX2_spansWithGap_X2_isIn rfl rfl rfl (by decide +kernel) ⟨Nat.le_of_ble_eq_true rfl, Nat.le_of_ble_eq_true rfl⟩) rfl rfl rfl (Nat.le_of_ble_eq_true rfl) ⟨Nat.le_of_ble_eq_true rfl, Nat.le_of_ble_eq_true rfl⟩ (fun _ q => q.elim) (fun _ h => h) (fun _ _ _ h _ _ => h) dX2_spansWithGap_23 ?_
    have z26 := pI_b (0 ≤ gap ∧ gap ≤ 100)
    refine g_if_eq S (tgt := 39) dX2_spansWithGap_26 (by decide) (by omega) (fun c26 => ?_) (fun c26 => ?_)
    · skip
      exact absurd c26 (by rw [pI_t (P := 0 ≤ gap ∧ gap ≤ 100) (by omega)]; decide)
    · skip
      refine g_aload_n S dX2_spansWithGap_29 rfl 0 rfl ?_
      refine g_iload_n S dX2_spansWithGap_30 rfl 1 rfl ?_
      refine g_iload_n S dX2_spansWithGap_31 rfl 1 rfl ?_
      refine g_iload_n S dX2_spansWithGap_32 rfl 2 rfl ?_
      refine g_callV S xK (As := [.int (iI u), .int (iI u), .int (iI gap)]) (st := []) (stk' := [.int (iI ((spS (fun x => on (302 * u + x) = 1 ∨ on (302 * u + x) = 1) gap pg.toNat).1))]) (Wp' := MW E am 0 pg n on se al) (r := (RX2, TX2, 6)) (m_X2_spans l E hj 0 pg n on se al u u gap (by omega) (by omega) (by omega) hpg hon) (cwV 3 S.2.2.2.2 gX2_spansWithGap_X2_spans rfl rfl rfl (by decide +kernel) ⟨Nat.le_of_ble_eq_true rfl, Nat.le_of_ble_eq_true rfl⟩) rfl rfl rfl rfl (Nat.le_of_ble_eq_true rfl) ⟨Nat.le_of_ble_eq_true rfl, Nat.le_of_ble_eq_true rfl⟩ (fun _ q => q.elim) (fun _ h => mw_x h) (fun _ h => h) (fun _ _ _ h _ _ => h) dX2_spansWithGap_33 ?_
      refine g_goto S (tgt := 44) dX2_spansWithGap_36 (by decide) ?_
      rw [show ((spS (cov (sp u)) gap pg.toNat).1) = ((spS (fun x => on (302 * u + x) = 1 ∨ on (302 * u + x) = 1) gap pg.toNat).1) from (rl_spans1 hrl (by omega) (by omega)).symm]
      exact g_iret S xr xlk dX2_spansWithGap_44 (fun _ h => h)
  · skip
    exact absurd c10 (by rw [pI_t (P := 0 ≤ u ∧ u ≤ n - 1) (by omega)]; decide)
set_option maxHeartbeats 4000000 in
set_option maxRecDepth 100000 in
theorem m_X2_spansWithGapE (l : Launch) (E : EN) {am : Int → Nat} (hj : INM am) (th pg n : Int) (on se : Int → Int) (al : Int → Nat) (u gap : Int) (hh : u < 0 ∨ n ≤ u) (hr : -2147483648 ≤ u ∧ u ≤ 2147483647) (hn : 0 ≤ n ∧ n ≤ 24) : Met l yX2_spansWithGap wsX2_spansWithGap ({ frames := 2, cells := 0, slots := 0, locals := 43 }) (CI E [.ref (am 0), .int (iI u), .int (iI gap)] (MW E am th pg n on se al)) (QW (some (.int (iI 0))) (MW E am 1 pg n on se al) (AM am)) 0 0 (AM am) := by
  refine g_met (cc := cX2_spansWithGap) (maxL := 3) (ret := (some .int)) (lv := [(0, .ref (am 0)), (1, .int (iI u)), (2, .int (iI gap))]) (by decide) rfl (Nat.le_of_ble_eq_true rfl) rfl ?_
  intro xp xe xs xm xa xb xh xc S xK xr xlk xin
  have kf24 := S.2.2.2.2 (.fieldLink RX2 24 "BookIndexModel" "thrown" "I") (by decide +kernel)
  have hin2 : ∀ w ∈ wsX20, w ∈ wsX2_spansWithGap := by decide +kernel
  refine g_aload_n S dX2_spansWithGap_0 rfl 0 rfl ?_
  refine g_iconst S dX2_spansWithGap_1 ?_
  refine g_put S xK (Wp' := MW E am 0 pg n on se al) (ref := "BookIndexModel") (ty := .int) hin2 tyX2 tyX2_ok nmX2 0 (by decide) (show vwCl[2]? = some (RX2, TX2, 6) from rfl) kf24 (fun _ h9 => h9) rfl (by decide +kernel) rfl rfl (fun _ h => mw_x h) (Nat.le_of_ble_eq_true rfl) (am_in (by omega)) (fun _ _ h hv _ oq => mw_sX hj h hv oq) dX2_spansWithGap_2 ?_
  refine g_aload_n S dX2_spansWithGap_5 rfl 0 rfl ?_
  refine g_iload_n S dX2_spansWithGap_6 rfl 1 rfl ?_
  refine g_callV S xK (As := [.int (iI u)]) (st := []) (stk' := [.int (iI (pI (0 ≤ u ∧ u ≤ n - 1)))]) (Wp' := MW E am 0 pg n on se al) (r := (RX2, TX2, 6)) (m_X2_isHeading l E hj 0 pg n on se al u (by omega) hn) (cwV 1 S.2.2.2.2 gX2_spansWithGap_X2_isHeading rfl rfl rfl (by decide +kernel) ⟨Nat.le_of_ble_eq_true rfl, Nat.le_of_ble_eq_true rfl⟩) rfl rfl rfl rfl (Nat.le_of_ble_eq_true rfl) ⟨Nat.le_of_ble_eq_true rfl, Nat.le_of_ble_eq_true rfl⟩ (fun _ q => q.elim) (fun _ h => mw_x h) (fun _ h => h) (fun _ _ _ h _ _ => h) dX2_spansWithGap_7 ?_
  have z10 := pI_b (0 ≤ u ∧ u ≤ n - 1)
  refine g_if_ne S (tgt := 19) dX2_spansWithGap_10 (by decide) (by omega) (fun c10 => ?_) (fun c10 => ?_)
  · skip
    exact absurd c10 (fun z => z (pI_f (P := 0 ≤ u ∧ u ≤ n - 1) (by omega)))
  · skip
    refine g_aload_n S dX2_spansWithGap_13 rfl 0 rfl ?_
    refine g_iconst S dX2_spansWithGap_14 ?_
    refine g_callV S xK (As := [.int (iI 1)]) (st := []) (stk' := [.int (iI 0)]) (Wp' := MW E am 1 pg n on se al) (r := (RX2, TX2, 6)) (m_X2_no l E hj 0 pg n on se al 1 ) (cwV 1 S.2.2.2.2 gX2_spansWithGap_X2_no rfl rfl rfl (by decide +kernel) ⟨Nat.le_of_ble_eq_true rfl, Nat.le_of_ble_eq_true rfl⟩) rfl rfl rfl rfl (Nat.le_of_ble_eq_true rfl) ⟨Nat.le_of_ble_eq_true rfl, Nat.le_of_ble_eq_true rfl⟩ (fun _ q => q) (fun _ h => mw_x h) (fun _ h => h) (fun _ _ _ h _ _ => h) dX2_spansWithGap_15 ?_
    exact g_iret S xr xlk dX2_spansWithGap_18 (fun _ h => h)
set_option maxHeartbeats 4000000 in
set_option maxRecDepth 100000 in
theorem m_X2_spansWithGapF (l : Launch) (E : EN) {am : Int → Nat} (hj : INM am) (th pg n : Int) (on se : Int → Int) (al : Int → Nat) (u gap : Int) (hh : 0 ≤ u ∧ u < n) (hn : 0 ≤ n ∧ n ≤ 24) (hg : gap < 0 ∨ 100 < gap) (hr : -2147483648 ≤ gap ∧ gap ≤ 2147483647) : Met l yX2_spansWithGap wsX2_spansWithGap ({ frames := 2, cells := 0, slots := 0, locals := 43 }) (CI E [.ref (am 0), .int (iI u), .int (iI gap)] (MW E am th pg n on se al)) (QW (some (.int (iI 0))) (MW E am 2 pg n on se al) (AM am)) 0 0 (AM am) := by
  refine g_met (cc := cX2_spansWithGap) (maxL := 3) (ret := (some .int)) (lv := [(0, .ref (am 0)), (1, .int (iI u)), (2, .int (iI gap))]) (by decide) rfl (Nat.le_of_ble_eq_true rfl) rfl ?_
  intro xp xe xs xm xa xb xh xc S xK xr xlk xin
  have kf24 := S.2.2.2.2 (.fieldLink RX2 24 "BookIndexModel" "thrown" "I") (by decide +kernel)
  have hin2 : ∀ w ∈ wsX20, w ∈ wsX2_spansWithGap := by decide +kernel
  refine g_aload_n S dX2_spansWithGap_0 rfl 0 rfl ?_
  refine g_iconst S dX2_spansWithGap_1 ?_
  refine g_put S xK (Wp' := MW E am 0 pg n on se al) (ref := "BookIndexModel") (ty := .int) hin2 tyX2 tyX2_ok nmX2 0 (by decide) (show vwCl[2]? = some (RX2, TX2, 6) from rfl) kf24 (fun _ h9 => h9) rfl (by decide +kernel) rfl rfl (fun _ h => mw_x h) (Nat.le_of_ble_eq_true rfl) (am_in (by omega)) (fun _ _ h hv _ oq => mw_sX hj h hv oq) dX2_spansWithGap_2 ?_
  refine g_aload_n S dX2_spansWithGap_5 rfl 0 rfl ?_
  refine g_iload_n S dX2_spansWithGap_6 rfl 1 rfl ?_
  refine g_callV S xK (As := [.int (iI u)]) (st := []) (stk' := [.int (iI (pI (0 ≤ u ∧ u ≤ n - 1)))]) (Wp' := MW E am 0 pg n on se al) (r := (RX2, TX2, 6)) (m_X2_isHeading l E hj 0 pg n on se al u (by omega) hn) (cwV 1 S.2.2.2.2 gX2_spansWithGap_X2_isHeading rfl rfl rfl (by decide +kernel) ⟨Nat.le_of_ble_eq_true rfl, Nat.le_of_ble_eq_true rfl⟩) rfl rfl rfl rfl (Nat.le_of_ble_eq_true rfl) ⟨Nat.le_of_ble_eq_true rfl, Nat.le_of_ble_eq_true rfl⟩ (fun _ q => q.elim) (fun _ h => mw_x h) (fun _ h => h) (fun _ _ _ h _ _ => h) dX2_spansWithGap_7 ?_
  have z10 := pI_b (0 ≤ u ∧ u ≤ n - 1)
  refine g_if_ne S (tgt := 19) dX2_spansWithGap_10 (by decide) (by omega) (fun c10 => ?_) (fun c10 => ?_)
  · skip
    refine g_iload_n S dX2_spansWithGap_19 rfl 2 rfl ?_
    refine g_iconst S dX2_spansWithGap_20 ?_
    refine g_bipush S dX2_spansWithGap_21 (by decide) ?_
    refine g_callS S xK (As := [.int (iI gap), .int (iI 0), .int (iI 100)]) (st := []) (stk' := [.int (iI (pI (0 ≤ gap ∧ gap ≤ 100)))]) (Wp' := MW E am 0 pg n on se al) (m_X2_isIn l E (Wp := MW E am 0 pg n on se al) gap 0 100 (by omega)) (cwS 3 S.2.2.2.2 gX2_spansWithGap_X2_isIn rfl rfl rfl (by decide +kernel) ⟨Nat.le_of_ble_eq_true rfl, Nat.le_of_ble_eq_true rfl⟩) rfl rfl rfl (Nat.le_of_ble_eq_true rfl) ⟨Nat.le_of_ble_eq_true rfl, Nat.le_of_ble_eq_true rfl⟩ (fun _ q => q.elim) (fun _ h => h) (fun _ _ _ h _ _ => h) dX2_spansWithGap_23 ?_
    have z26 := pI_b (0 ≤ gap ∧ gap ≤ 100)
    refine g_if_eq S (tgt := 39) dX2_spansWithGap_26 (by decide) (by omega) (fun c26 => ?_) (fun c26 => ?_)
    · skip
      refine g_aload_n S dX2_spansWithGap_39 rfl 0 rfl ?_
      refine g_iconst S dX2_spansWithGap_40 ?_
      refine g_callV S xK (As := [.int (iI 2)]) (st := []) (stk' := [.int (iI 0)]) (Wp' := MW E am 2 pg n on se al) (r := (RX2, TX2, 6)) (m_X2_no l E hj 0 pg n on se al 2 ) (cwV 1 S.2.2.2.2 gX2_spansWithGap_X2_no rfl rfl rfl (by decide +kernel) ⟨Nat.le_of_ble_eq_true rfl, Nat.le_of_ble_eq_true rfl⟩) rfl rfl rfl rfl (Nat.le_of_ble_eq_true rfl) ⟨Nat.le_of_ble_eq_true rfl, Nat.le_of_ble_eq_true rfl⟩ (fun _ q => q) (fun _ h => mw_x h) (fun _ h => h) (fun _ _ _ h _ _ => h) dX2_spansWithGap_41 ?_
      exact g_iret S xr xlk dX2_spansWithGap_44 (fun _ h => h)
    · skip
      exact absurd c26 (fun z => z (pI_f (P := 0 ≤ gap ∧ gap ≤ 100) (by omega)))
  · skip
    exact absurd c10 (by rw [pI_t (P := 0 ≤ u ∧ u ≤ n - 1) (by omega)]; decide)
set_option maxHeartbeats 4000000 in
set_option maxRecDepth 100000 in
theorem m_X2_addHeading (l : Launch) (E : EN) {am : Int → Nat} (hj : INM am) (th pg n : Int) (on se : Int → Int) (al : Int → Nat) (hn : 0 ≤ n ∧ n < 24) : Met l yX2_addHeading wsX2_addHeading ({ frames := 0, cells := 0, slots := 0, locals := 0 }) (CI E [.ref (am 0)] (MW E am th pg n on se al)) (QW (some (.int (iI (n + 1 - 1)))) (MW E am 0 pg (n + 1) on (upI se n (-1)) al) (AM am)) 0 0 (AM am) := by
  refine g_met (cc := cX2_addHeading) (maxL := 1) (ret := (some .int)) (lv := [(0, .ref (am 0))]) (by decide) rfl (Nat.le_of_ble_eq_true rfl) rfl ?_
  intro xp xe xs xm xa xb xh xc S xK xr xlk xin
  have kf24 := S.2.2.2.2 (.fieldLink RX2 24 "BookIndexModel" "thrown" "I") (by decide +kernel)
  have kf27 := S.2.2.2.2 (.fieldLink RX2 27 "BookIndexModel" "headings" "I") (by decide +kernel)
  have kf17 := S.2.2.2.2 (.fieldLink RX2 17 "BookIndexModel" "see" "[I") (by decide +kernel)
  have hin2 : ∀ w ∈ wsX20, w ∈ wsX2_addHeading := by decide +kernel
  refine g_aload_n S dX2_addHeading_0 rfl 0 rfl ?_
  refine g_iconst S dX2_addHeading_1 ?_
  refine g_put S xK (Wp' := MW E am 0 pg n on se al) (ref := "BookIndexModel") (ty := .int) hin2 tyX2 tyX2_ok nmX2 0 (by decide) (show vwCl[2]? = some (RX2, TX2, 6) from rfl) kf24 (fun _ h9 => h9) rfl (by decide +kernel) rfl rfl (fun _ h => mw_x h) (Nat.le_of_ble_eq_true rfl) (am_in (by omega)) (fun _ _ h hv _ oq => mw_sX hj h hv oq) dX2_addHeading_2 ?_
  refine g_aload_n S dX2_addHeading_5 rfl 0 rfl ?_
  refine g_get S xK (ref := "BookIndexModel") hin2 2 (by decide) (show vwCl[2]? = some (RX2, TX2, 6) from rfl) kf27 (fun _ h9 => h9) (fun _ h => mw_x h) rfl dX2_addHeading_6 ?_
  refine g_bipush S dX2_addHeading_9 (by decide) ?_
  refine g_icmp_ne S (tgt := 20) dX2_addHeading_11 (by decide) (by omega) (fun c11 => ?_) (fun c11 => ?_)
  · skip
    refine g_aload_n S dX2_addHeading_20 rfl 0 rfl ?_
    refine g_get S xK (ref := "BookIndexModel") hin2 4 (by decide) (show vwCl[2]? = some (RX2, TX2, 6) from rfl) kf17 (fun _ h9 => h9) (fun _ h => mw_x h) rfl dX2_addHeading_21 ?_
    refine g_aload_n S dX2_addHeading_24 rfl 0 rfl ?_
    refine g_get S xK (ref := "BookIndexModel") hin2 2 (by decide) (show vwCl[2]? = some (RX2, TX2, 6) from rfl) kf27 (fun _ h9 => h9) (fun _ h => mw_x h) rfl dX2_addHeading_25 ?_
    refine g_iconst S dX2_addHeading_28 ?_
    refine g_iast S xK (Wp' := MW E am 0 pg n on (upI se n (-1)) al) (n := 24) (fun _ h => mw_se h) (by omega) (by decide) (am_in (by omega)) (fun _ _ h hv _ oq => mw_sSe hj h hv oq) dX2_addHeading_29 ?_
    refine g_aload_n S dX2_addHeading_30 rfl 0 rfl ?_
    refine g_dup S dX2_addHeading_31 rfl ?_
    refine g_get S xK (ref := "BookIndexModel") hin2 2 (by decide) (show vwCl[2]? = some (RX2, TX2, 6) from rfl) kf27 (fun _ h9 => h9) (fun _ h => mw_x h) rfl dX2_addHeading_32 ?_
    refine g_iconst S dX2_addHeading_35 ?_
    refine g_iadd S dX2_addHeading_36 ?_
    refine g_put S xK (Wp' := MW E am 0 pg (n + 1) on (upI se n (-1)) al) (ref := "BookIndexModel") (ty := .int) hin2 tyX2 tyX2_ok nmX2 2 (by decide) (show vwCl[2]? = some (RX2, TX2, 6) from rfl) kf27 (fun _ h9 => h9) rfl (by decide +kernel) rfl rfl (fun _ h => mw_x h) (Nat.le_of_ble_eq_true rfl) (am_in (by omega)) (fun _ _ h hv _ oq => mw_sX hj h hv oq) dX2_addHeading_37 ?_
    refine g_aload_n S dX2_addHeading_40 rfl 0 rfl ?_
    refine g_get S xK (ref := "BookIndexModel") hin2 2 (by decide) (show vwCl[2]? = some (RX2, TX2, 6) from rfl) kf27 (fun _ h9 => h9) (fun _ h => mw_x h) rfl dX2_addHeading_41 ?_
    refine g_iconst S dX2_addHeading_44 ?_
    refine g_isub S dX2_addHeading_45 ?_
    exact g_iret S xr xlk dX2_addHeading_46 (fun _ h => h)
  · skip
    exact absurd c11 (by omega)
set_option maxHeartbeats 4000000 in
set_option maxRecDepth 100000 in
theorem m_X2_addHeadingE (l : Launch) (E : EN) {am : Int → Nat} (hj : INM am) (th pg n : Int) (on se : Int → Int) (al : Int → Nat) (hn : n = 24) : Met l yX2_addHeading wsX2_addHeading ({ frames := 1, cells := 0, slots := 0, locals := 21 }) (CI E [.ref (am 0)] (MW E am th pg n on se al)) (QW (some (.int (iI 0))) (MW E am 1 pg n on se al) (AM am)) 0 0 (AM am) := by
  refine g_met (cc := cX2_addHeading) (maxL := 1) (ret := (some .int)) (lv := [(0, .ref (am 0))]) (by decide) rfl (Nat.le_of_ble_eq_true rfl) rfl ?_
  intro xp xe xs xm xa xb xh xc S xK xr xlk xin
  have kf24 := S.2.2.2.2 (.fieldLink RX2 24 "BookIndexModel" "thrown" "I") (by decide +kernel)
  have kf27 := S.2.2.2.2 (.fieldLink RX2 27 "BookIndexModel" "headings" "I") (by decide +kernel)
  have hin2 : ∀ w ∈ wsX20, w ∈ wsX2_addHeading := by decide +kernel
  refine g_aload_n S dX2_addHeading_0 rfl 0 rfl ?_
  refine g_iconst S dX2_addHeading_1 ?_
  refine g_put S xK (Wp' := MW E am 0 pg n on se al) (ref := "BookIndexModel") (ty := .int) hin2 tyX2 tyX2_ok nmX2 0 (by decide) (show vwCl[2]? = some (RX2, TX2, 6) from rfl) kf24 (fun _ h9 => h9) rfl (by decide +kernel) rfl rfl (fun _ h => mw_x h) (Nat.le_of_ble_eq_true rfl) (am_in (by omega)) (fun _ _ h hv _ oq => mw_sX hj h hv oq) dX2_addHeading_2 ?_
  refine g_aload_n S dX2_addHeading_5 rfl 0 rfl ?_
  refine g_get S xK (ref := "BookIndexModel") hin2 2 (by decide) (show vwCl[2]? = some (RX2, TX2, 6) from rfl) kf27 (fun _ h9 => h9) (fun _ h => mw_x h) rfl dX2_addHeading_6 ?_
  refine g_bipush S dX2_addHeading_9 (by decide) ?_
  refine g_icmp_ne S (tgt := 20) dX2_addHeading_11 (by decide) (by omega) (fun c11 => ?_) (fun c11 => ?_)
  · skip
    exact absurd c11 (by omega)
  · skip
    refine g_aload_n S dX2_addHeading_14 rfl 0 rfl ?_
    refine g_iconst S dX2_addHeading_15 ?_
    refine g_callV S xK (As := [.int (iI 1)]) (st := []) (stk' := [.int (iI 0)]) (Wp' := MW E am 1 pg n on se al) (r := (RX2, TX2, 6)) (m_X2_no l E hj 0 pg n on se al 1 ) (cwV 1 S.2.2.2.2 gX2_addHeading_X2_no rfl rfl rfl (by decide +kernel) ⟨Nat.le_of_ble_eq_true rfl, Nat.le_of_ble_eq_true rfl⟩) rfl rfl rfl rfl (Nat.le_of_ble_eq_true rfl) ⟨Nat.le_of_ble_eq_true rfl, Nat.le_of_ble_eq_true rfl⟩ (fun _ q => q) (fun _ h => mw_x h) (fun _ h => h) (fun _ _ _ h _ _ => h) dX2_addHeading_16 ?_
    exact g_iret S xr xlk dX2_addHeading_19 (fun _ h => h)
set_option maxHeartbeats 4000000 in
set_option maxRecDepth 100000 in
theorem m_X2_put (l : Launch) (E : EN) {am : Int → Nat} (hj : INM am) (th pg n : Int) (on se : Int → Int) (al : Int → Nat) (h_ fr to v : Int) (hh : 0 ≤ h_ ∧ h_ ≤ 23) (hft : 0 ≤ fr ∧ fr ≤ to + 1 ∧ to ≤ 301) (hv : v = 0 ∨ v = 1) : Met l yX2_put wsX2_put ({ frames := 1, cells := 0, slots := 0, locals := 23 }) (CI E [.ref (am 0), .int (iI h_), .int (iI fr), .int (iI to), .int (iI v)] (MW E am th pg n on se al)) (QW (none) (MW E am th pg n (ptO on (302 * h_ + fr) (302 * h_ + to) v) se al) (AM am)) 0 0 (AM am) := by
  refine g_met (cc := cX2_put) (maxL := 6) (ret := none) (lv := [(0, .ref (am 0)), (1, .int (iI h_)), (2, .int (iI fr)), (3, .int (iI to)), (4, .int (iI v))]) (by decide) rfl (Nat.le_of_ble_eq_true rfl) rfl ?_
  intro xp xe xs xm xa xb xh xc S xK xr xlk xin
  refine g_iload_n S dX2_put_0 rfl 2 rfl ?_
  refine g_istore S (lv' := [(5, .int (iI fr)), (0, .ref (am 0)), (1, .int (iI h_)), (2, .int (iI fr)), (3, .int (iI to)), (4, .int (iI v))]) dX2_put_1 (Nat.le_of_ble_eq_true rfl) rfl ?_
  have L3 : ∀ (nf : Nat) (p : Int) (oo : Int → Int), (fr ≤ p ∧ p ≤ to + 1) → (oo = ptO on (302 * h_ + fr) (302 * h_ + p - 1) v) → (to + 1 - p < (nf : Int)) → G xp l xe ({ frames := 1, cells := 0, slots := 0, locals := 23 }) xs xm xa xb xh xc 6 (AM am) 0 0 (MQ xb (QW (none) (MW E am th pg n (ptO on (302 * h_ + fr) (302 * h_ + to) v) se al) (AM am)) xa xs 0 0 (AM am)) 3 [(0, .ref (am 0)), (1, .int (iI h_)), (2, .int (iI fr)), (3, .int (iI to)), (4, .int (iI v)), (5, .int (iI p))] [] (MW E am th pg n oo se al) := by
    intro nf
    induction nf with
    | zero =>
      intro p oo hp hoo hmf
      exfalso
      omega
    | succ nf ihL3 =>
      intro p oo hp hoo hmf
      refine g_iload S dX2_put_3 5 rfl ?_
      refine g_iload_n S dX2_put_5 rfl 3 rfl ?_
      refine g_icmp_gt S (tgt := 24) dX2_put_6 (by decide) (by omega) (fun c6 => ?_) (fun c6 => ?_)
      · skip
        exact g_vret S xr xlk dX2_put_24 (fun _ h => by rw [hoo, show p = to + 1 by omega, show 302 * h_ + (to + 1) - 1 = 302 * h_ + to by omega] at h; exact h)
      · skip
        refine g_aload_n S dX2_put_9 rfl 0 rfl ?_
        refine g_iload_n S dX2_put_10 rfl 1 rfl ?_
        refine g_iload S dX2_put_11 5 rfl ?_
        refine g_iload S dX2_put_13 4 rfl ?_
        refine g_callV S xK (As := [.int (iI h_), .int (iI p), .int (iI v)]) (st := []) (stk' := []) (Wp' := MW E am th pg n (upI oo (302 * h_ + p) v) se al) (r := (RX2, TX2, 6)) (m_X2_let l E hj th pg n oo se al h_ p v (by omega) (by omega) hv) (cwV 3 S.2.2.2.2 gX2_put_X2_let rfl rfl rfl (by decide +kernel) ⟨Nat.le_of_ble_eq_true rfl, Nat.le_of_ble_eq_true rfl⟩) rfl rfl rfl rfl (Nat.le_of_ble_eq_true rfl) ⟨Nat.le_of_ble_eq_true rfl, Nat.le_of_ble_eq_true rfl⟩ (fun _ q => q) (fun _ h => mw_x h) (fun _ h => h) (fun _ _ _ h _ _ => h) dX2_put_15 ?_
        refine g_iinc S (lv' := [(5, .int (iI (p + 1))), (0, .ref (am 0)), (1, .int (iI h_)), (2, .int (iI fr)), (3, .int (iI to)), (4, .int (iI v))]) dX2_put_18 5 rfl (Nat.le_of_ble_eq_true rfl) rfl ?_
        refine g_goto S (tgt := 3) dX2_put_21 (by decide) ?_
        refine g_lv [1, 2, 3, 4, 5, 0] rfl ?_
        exact ihL3 (p + 1) (upI oo (302 * h_ + p) v) (by omega) (by have e := ptO_s on v (a := 302 * h_ + fr) (b := 302 * h_ + p - 1) (by omega); rw [show 302 * h_ + p - 1 + 1 = 302 * h_ + p by omega] at e; rw [hoo, show 302 * h_ + (p + 1) - 1 = 302 * h_ + p by omega]; exact e) (by omega)
  refine g_lv [1, 2, 3, 4, 5, 0] rfl ?_
  exact L3 ((to + 1 - fr) + 1).toNat fr on (by omega) ((ptO_0 _ _ (by omega)).symm) (by omega)
set_option maxHeartbeats 4000000 in
set_option maxRecDepth 100000 in
theorem m_X2_isSpan (l : Launch) (E : EN) {am : Int → Nat} (hj : INM am) (th pg n : Int) (on se : Int → Int) (al : Int → Nat) (sp : Int → SpT) (u k : Int) (hh : 0 ≤ u ∧ u < n) (hn : 0 ≤ n ∧ n ≤ 24) (hr : -2147483648 ≤ k ∧ k ≤ 2147483647) (hpg : 1 ≤ pg ∧ pg ≤ 300) (hrl : RPS on sp n) (hsp : SPV sp n pg) (hon : ∀ k, on k = 0 ∨ on k = 1) : Met l yX2_isSpan wsX2_isSpan ({ frames := 2, cells := 0, slots := 0, locals := 48 }) (CI E [.ref (am 0), .int (iI u), .int (iI k)] (MW E am th pg n on se al)) (QW (some (.int (iI (pI (0 ≤ k ∧ k ≤ (sp u).1 - 1))))) (MW E am th pg n on se al) (fun _ => False)) 0 0 (fun _ => False) := by
  refine g_met (cc := cX2_isSpan) (maxL := 3) (ret := (some .boolean)) (lv := [(0, .ref (am 0)), (1, .int (iI u)), (2, .int (iI k))]) (by decide) rfl (Nat.le_of_ble_eq_true rfl) rfl ?_
  intro xp xe xs xm xa xb xh xc S xK xr xlk xin
  refine g_aload_n S dX2_isSpan_0 rfl 0 rfl ?_
  refine g_iload_n S dX2_isSpan_1 rfl 1 rfl ?_
  refine g_callV S xK (As := [.int (iI u)]) (st := []) (stk' := [.int (iI (pI (0 ≤ u ∧ u ≤ n - 1)))]) (Wp' := MW E am th pg n on se al) (r := (RX2, TX2, 6)) (m_X2_isHeading l E hj th pg n on se al u (by omega) hn) (cwV 1 S.2.2.2.2 gX2_isSpan_X2_isHeading rfl rfl rfl (by decide +kernel) ⟨Nat.le_of_ble_eq_true rfl, Nat.le_of_ble_eq_true rfl⟩) rfl rfl rfl rfl (Nat.le_of_ble_eq_true rfl) ⟨Nat.le_of_ble_eq_true rfl, Nat.le_of_ble_eq_true rfl⟩ (fun _ q => q.elim) (fun _ h => mw_x h) (fun _ h => h) (fun _ _ _ h _ _ => h) dX2_isSpan_2 ?_
  have z5 := pI_b (0 ≤ u ∧ u ≤ n - 1)
  refine g_if_eq S (tgt := 29) dX2_isSpan_5 (by decide) (by omega) (fun c5 => ?_) (fun c5 => ?_)
  · skip
    exact absurd c5 (by rw [pI_t (P := 0 ≤ u ∧ u ≤ n - 1) (by omega)]; decide)
  · skip
    have e19 := rl_spans0 hrl hsp (a := u) (by omega) (by omega)
    have v19 := hsp u (by omega) (by omega)
    have w19 := v19.1.1
    refine g_iload_n S dX2_isSpan_8 rfl 2 rfl ?_
    refine g_iconst S dX2_isSpan_9 ?_
    refine g_aload_n S dX2_isSpan_10 rfl 0 rfl ?_
    refine g_iload_n S dX2_isSpan_11 rfl 1 rfl ?_
    refine g_iload_n S dX2_isSpan_12 rfl 1 rfl ?_
    refine g_iconst S dX2_isSpan_13 ?_
    refine g_callV S xK (As := [.int (iI u), .int (iI u), .int (iI 0)]) (st := [.int (iI 0), .int (iI k)]) (stk' := [.int (iI ((spS (fun x => on (302 * u + x) = 1 ∨ on (302 * u + x) = 1) 0 pg.toNat).1)), .int (iI 0), .int (iI k)]) (Wp' := MW E am th pg n on se al) (r := (RX2, TX2, 6)) (m_X2_spans l E hj th pg n on se al u u 0 (by omega) (by omega) (by omega) hpg hon) (cwV 3 S.2.2.2.2 gX2_isSpan_X2_spans rfl rfl rfl (by decide +kernel) ⟨Nat.le_of_ble_eq_true rfl, Nat.le_of_ble_eq_true rfl⟩) rfl rfl rfl rfl (Nat.le_of_ble_eq_true rfl) ⟨Nat.le_of_ble_eq_true rfl, Nat.le_of_ble_eq_true rfl⟩ (fun _ q => q.elim) (fun _ h => mw_x h) (fun _ h => h) (fun _ _ _ h _ _ => h) dX2_isSpan_14 ?_
    refine g_iconst S dX2_isSpan_17 ?_
    refine g_isub S dX2_isSpan_18 ?_
    refine g_callS S xK (As := [.int (iI k), .int (iI 0), .int (iI ((spS (fun x => on (302 * u + x) = 1 ∨ on (302 * u + x) = 1) 0 pg.toNat).1 - 1))]) (st := []) (stk' := [.int (iI (pI (0 ≤ k ∧ k ≤ (spS (fun x => on (302 * u + x) = 1 ∨ on (302 * u + x) = 1) 0 pg.toNat).1 - 1)))]) (Wp' := MW E am th pg n on se al) (m_X2_isIn l E (Wp := MW E am th pg n on se al) k 0 ((spS (fun x => on (302 * u + x) = 1 ∨ on (302 * u + x) = 1) 0 pg.toNat).1 - 1) (by omega)) (cwS 3 S.2.2.2.2 gX2_isSpan_X2_isIn rfl rfl rfl (by decide +kernel) ⟨Nat.le_of_ble_eq_true rfl, Nat.le_of_ble_eq_true rfl⟩) rfl rfl rfl (Nat.le_of_ble_eq_true rfl) ⟨Nat.le_of_ble_eq_true rfl, Nat.le_of_ble_eq_true rfl⟩ (fun _ q => q.elim) (fun _ h => h) (fun _ _ _ h _ _ => h) dX2_isSpan_19 ?_
    have z22 := pI_b (0 ≤ k ∧ k ≤ (spS (fun x => on (302 * u + x) = 1 ∨ on (302 * u + x) = 1) 0 pg.toNat).1 - 1)
    refine g_if_eq S (tgt := 29) dX2_isSpan_22 (by decide) (by omega) (fun c22 => ?_) (fun c22 => ?_)
    · skip
      refine g_iconst S dX2_isSpan_29 ?_
      rw [pI_f (P := 0 ≤ k ∧ k ≤ (sp u).1 - 1) (by have z := pI_eq0 c22; omega)]
      exact g_zret S xr xlk (Or.inl rfl) dX2_isSpan_30 (fun _ h => h)
    · skip
      refine g_iconst S dX2_isSpan_25 ?_
      refine g_goto S (tgt := 30) dX2_isSpan_26 (by decide) ?_
      rw [pI_t (P := 0 ≤ k ∧ k ≤ (sp u).1 - 1) (by have z := pI_ne0 c22; omega)]
      exact g_zret S xr xlk (Or.inr rfl) dX2_isSpan_30 (fun _ h => h)
set_option maxHeartbeats 4000000 in
set_option maxRecDepth 100000 in
theorem m_X2_isSpanE (l : Launch) (E : EN) {am : Int → Nat} (hj : INM am) (th pg n : Int) (on se : Int → Int) (al : Int → Nat) (u k : Int) (hh : u < 0 ∨ n ≤ u) (hr : -2147483648 ≤ u ∧ u ≤ 2147483647) (hn : 0 ≤ n ∧ n ≤ 24) : Met l yX2_isSpan wsX2_isSpan ({ frames := 2, cells := 0, slots := 0, locals := 43 }) (CI E [.ref (am 0), .int (iI u), .int (iI k)] (MW E am th pg n on se al)) (QW (some (.int (iI 0))) (MW E am th pg n on se al) (fun _ => False)) 0 0 (fun _ => False) := by
  refine g_met (cc := cX2_isSpan) (maxL := 3) (ret := (some .boolean)) (lv := [(0, .ref (am 0)), (1, .int (iI u)), (2, .int (iI k))]) (by decide) rfl (Nat.le_of_ble_eq_true rfl) rfl ?_
  intro xp xe xs xm xa xb xh xc S xK xr xlk xin
  refine g_aload_n S dX2_isSpan_0 rfl 0 rfl ?_
  refine g_iload_n S dX2_isSpan_1 rfl 1 rfl ?_
  refine g_callV S xK (As := [.int (iI u)]) (st := []) (stk' := [.int (iI (pI (0 ≤ u ∧ u ≤ n - 1)))]) (Wp' := MW E am th pg n on se al) (r := (RX2, TX2, 6)) (m_X2_isHeading l E hj th pg n on se al u (by omega) hn) (cwV 1 S.2.2.2.2 gX2_isSpan_X2_isHeading rfl rfl rfl (by decide +kernel) ⟨Nat.le_of_ble_eq_true rfl, Nat.le_of_ble_eq_true rfl⟩) rfl rfl rfl rfl (Nat.le_of_ble_eq_true rfl) ⟨Nat.le_of_ble_eq_true rfl, Nat.le_of_ble_eq_true rfl⟩ (fun _ q => q.elim) (fun _ h => mw_x h) (fun _ h => h) (fun _ _ _ h _ _ => h) dX2_isSpan_2 ?_
  have z5 := pI_b (0 ≤ u ∧ u ≤ n - 1)
  refine g_if_eq S (tgt := 29) dX2_isSpan_5 (by decide) (by omega) (fun c5 => ?_) (fun c5 => ?_)
  · skip
    refine g_iconst S dX2_isSpan_29 ?_
    exact g_zret S xr xlk (Or.inl rfl) dX2_isSpan_30 (fun _ h => h)
  · skip
    exact absurd c5 (fun z => z (pI_f (P := 0 ≤ u ∧ u ≤ n - 1) (by omega)))
set_option maxHeartbeats 4000000 in
set_option maxRecDepth 100000 in
theorem m_X2_startOf (l : Launch) (E : EN) {am : Int → Nat} (hj : INM am) (th pg n : Int) (on se : Int → Int) (al : Int → Nat) (sp : Int → SpT) (u k : Int) (hh : 0 ≤ u ∧ u < n) (hn : 0 ≤ n ∧ n ≤ 24) (hk : 0 ≤ k ∧ k < (sp u).1) (hpg : 1 ≤ pg ∧ pg ≤ 300) (hrl : RPS on sp n) (hsp : SPV sp n pg) (hon : ∀ k, on k = 0 ∨ on k = 1) : Met l yX2_startOf wsX2_startOf ({ frames := 3, cells := 0, slots := 0, locals := 70 }) (CI E [.ref (am 0), .int (iI u), .int (iI k)] (MW E am th pg n on se al)) (QW (some (.int (iI ((sp u).2.1 k)))) (MW E am 0 pg n on se al) (AM am)) 0 0 (AM am) := by
  refine g_met (cc := cX2_startOf) (maxL := 3) (ret := (some .int)) (lv := [(0, .ref (am 0)), (1, .int (iI u)), (2, .int (iI k))]) (by decide) rfl (Nat.le_of_ble_eq_true rfl) rfl ?_
  intro xp xe xs xm xa xb xh xc S xK xr xlk xin
  have kf24 := S.2.2.2.2 (.fieldLink RX2 24 "BookIndexModel" "thrown" "I") (by decide +kernel)
  have hin2 : ∀ w ∈ wsX20, w ∈ wsX2_startOf := by decide +kernel
  have v9 := hsp u (by omega) (by omega)
  refine g_aload_n S dX2_startOf_0 rfl 0 rfl ?_
  refine g_iconst S dX2_startOf_1 ?_
  refine g_put S xK (Wp' := MW E am 0 pg n on se al) (ref := "BookIndexModel") (ty := .int) hin2 tyX2 tyX2_ok nmX2 0 (by decide) (show vwCl[2]? = some (RX2, TX2, 6) from rfl) kf24 (fun _ h9 => h9) rfl (by decide +kernel) rfl rfl (fun _ h => mw_x h) (Nat.le_of_ble_eq_true rfl) (am_in (by omega)) (fun _ _ h hv _ oq => mw_sX hj h hv oq) dX2_startOf_2 ?_
  refine g_aload_n S dX2_startOf_5 rfl 0 rfl ?_
  refine g_iload_n S dX2_startOf_6 rfl 1 rfl ?_
  refine g_iload_n S dX2_startOf_7 rfl 2 rfl ?_
  refine g_callV S xK (As := [.int (iI u), .int (iI k)]) (st := []) (stk' := [.int (iI (pI (0 ≤ k ∧ k ≤ (sp u).1 - 1)))]) (Wp' := MW E am 0 pg n on se al) (r := (RX2, TX2, 6)) (m_X2_isSpan l E hj 0 pg n on se al sp u k (by omega) hn (by omega) hpg hrl hsp hon) (cwV 2 S.2.2.2.2 gX2_startOf_X2_isSpan rfl rfl rfl (by decide +kernel) ⟨Nat.le_of_ble_eq_true rfl, Nat.le_of_ble_eq_true rfl⟩) rfl rfl rfl rfl (Nat.le_of_ble_eq_true rfl) ⟨Nat.le_of_ble_eq_true rfl, Nat.le_of_ble_eq_true rfl⟩ (fun _ q => q.elim) (fun _ h => mw_x h) (fun _ h => h) (fun _ _ _ h _ _ => h) dX2_startOf_8 ?_
  have z11 := pI_b (0 ≤ k ∧ k ≤ (sp u).1 - 1)
  refine g_if_eq S (tgt := 23) dX2_startOf_11 (by decide) (by omega) (fun c11 => ?_) (fun c11 => ?_)
  · skip
    exact absurd c11 (by rw [pI_t (P := 0 ≤ k ∧ k ≤ (sp u).1 - 1) (by omega)]; decide)
  · skip
    refine g_aload_n S dX2_startOf_14 rfl 0 rfl ?_
    refine g_iload_n S dX2_startOf_15 rfl 1 rfl ?_
    refine g_iload_n S dX2_startOf_16 rfl 2 rfl ?_
    refine g_callV S xK (As := [.int (iI u), .int (iI k)]) (st := []) (stk' := [.int (iI ((sp u).2.1 k))]) (Wp' := MW E am 0 pg n on se al) (r := (RX2, TX2, 6)) (m_X2_begins l E hj 0 pg n on se al (sp u) u k (by omega) (by omega) (by omega) hpg hon v9.1 (fun q q0 q1 => hrl u (by omega) (by omega) q q0 q1)) (cwV 2 S.2.2.2.2 gX2_startOf_X2_begins rfl rfl rfl (by decide +kernel) ⟨Nat.le_of_ble_eq_true rfl, Nat.le_of_ble_eq_true rfl⟩) rfl rfl rfl rfl (Nat.le_of_ble_eq_true rfl) ⟨Nat.le_of_ble_eq_true rfl, Nat.le_of_ble_eq_true rfl⟩ (fun _ q => q.elim) (fun _ h => mw_x h) (fun _ h => h) (fun _ _ _ h _ _ => h) dX2_startOf_17 ?_
    refine g_goto S (tgt := 28) dX2_startOf_20 (by decide) ?_
    exact g_iret S xr xlk dX2_startOf_28 (fun _ h => h)
set_option maxHeartbeats 4000000 in
set_option maxRecDepth 100000 in
theorem m_X2_startOfE (l : Launch) (E : EN) {am : Int → Nat} (hj : INM am) (th pg n : Int) (on se : Int → Int) (al : Int → Nat) (u k : Int) (hh : u < 0 ∨ n ≤ u) (hr : -2147483648 ≤ u ∧ u ≤ 2147483647) (hn : 0 ≤ n ∧ n ≤ 24) : Met l yX2_startOf wsX2_startOf ({ frames := 3, cells := 0, slots := 0, locals := 65 }) (CI E [.ref (am 0), .int (iI u), .int (iI k)] (MW E am th pg n on se al)) (QW (some (.int (iI 0))) (MW E am 1 pg n on se al) (AM am)) 0 0 (AM am) := by
  refine g_met (cc := cX2_startOf) (maxL := 3) (ret := (some .int)) (lv := [(0, .ref (am 0)), (1, .int (iI u)), (2, .int (iI k))]) (by decide) rfl (Nat.le_of_ble_eq_true rfl) rfl ?_
  intro xp xe xs xm xa xb xh xc S xK xr xlk xin
  have kf24 := S.2.2.2.2 (.fieldLink RX2 24 "BookIndexModel" "thrown" "I") (by decide +kernel)
  have hin2 : ∀ w ∈ wsX20, w ∈ wsX2_startOf := by decide +kernel
  refine g_aload_n S dX2_startOf_0 rfl 0 rfl ?_
  refine g_iconst S dX2_startOf_1 ?_
  refine g_put S xK (Wp' := MW E am 0 pg n on se al) (ref := "BookIndexModel") (ty := .int) hin2 tyX2 tyX2_ok nmX2 0 (by decide) (show vwCl[2]? = some (RX2, TX2, 6) from rfl) kf24 (fun _ h9 => h9) rfl (by decide +kernel) rfl rfl (fun _ h => mw_x h) (Nat.le_of_ble_eq_true rfl) (am_in (by omega)) (fun _ _ h hv _ oq => mw_sX hj h hv oq) dX2_startOf_2 ?_
  refine g_aload_n S dX2_startOf_5 rfl 0 rfl ?_
  refine g_iload_n S dX2_startOf_6 rfl 1 rfl ?_
  refine g_iload_n S dX2_startOf_7 rfl 2 rfl ?_
  refine g_callV S xK (As := [.int (iI u), .int (iI k)]) (st := []) (stk' := [.int (iI 0)]) (Wp' := MW E am 0 pg n on se al) (r := (RX2, TX2, 6)) (m_X2_isSpanE l E hj 0 pg n on se al u k (by omega) (by omega) hn) (cwV 2 S.2.2.2.2 gX2_startOf_X2_isSpan rfl rfl rfl (by decide +kernel) ⟨Nat.le_of_ble_eq_true rfl, Nat.le_of_ble_eq_true rfl⟩) rfl rfl rfl rfl (Nat.le_of_ble_eq_true rfl) ⟨Nat.le_of_ble_eq_true rfl, Nat.le_of_ble_eq_true rfl⟩ (fun _ q => q.elim) (fun _ h => mw_x h) (fun _ h => h) (fun _ _ _ h _ _ => h) dX2_startOf_8 ?_
  refine g_if_eq S (tgt := 23) dX2_startOf_11 (by decide) (by omega) (fun c11 => ?_) (fun c11 => ?_)
  · skip
    refine g_aload_n S dX2_startOf_23 rfl 0 rfl ?_
    refine g_iconst S dX2_startOf_24 ?_
    refine g_callV S xK (As := [.int (iI 1)]) (st := []) (stk' := [.int (iI 0)]) (Wp' := MW E am 1 pg n on se al) (r := (RX2, TX2, 6)) (m_X2_no l E hj 0 pg n on se al 1 ) (cwV 1 S.2.2.2.2 gX2_startOf_X2_no rfl rfl rfl (by decide +kernel) ⟨Nat.le_of_ble_eq_true rfl, Nat.le_of_ble_eq_true rfl⟩) rfl rfl rfl rfl (Nat.le_of_ble_eq_true rfl) ⟨Nat.le_of_ble_eq_true rfl, Nat.le_of_ble_eq_true rfl⟩ (fun _ q => q) (fun _ h => mw_x h) (fun _ h => h) (fun _ _ _ h _ _ => h) dX2_startOf_25 ?_
    exact g_iret S xr xlk dX2_startOf_28 (fun _ h => h)
  · skip
    exact absurd c11 (by decide)
set_option maxHeartbeats 4000000 in
set_option maxRecDepth 100000 in
theorem m_X2_startOfF (l : Launch) (E : EN) {am : Int → Nat} (hj : INM am) (th pg n : Int) (on se : Int → Int) (al : Int → Nat) (sp : Int → SpT) (u k : Int) (hh : 0 ≤ u ∧ u < n) (hn : 0 ≤ n ∧ n ≤ 24) (hk : k < 0 ∨ (sp u).1 ≤ k) (hr : -2147483648 ≤ k ∧ k ≤ 2147483647) (hpg : 1 ≤ pg ∧ pg ≤ 300) (hrl : RPS on sp n) (hsp : SPV sp n pg) (hon : ∀ k, on k = 0 ∨ on k = 1) : Met l yX2_startOf wsX2_startOf ({ frames := 3, cells := 0, slots := 0, locals := 70 }) (CI E [.ref (am 0), .int (iI u), .int (iI k)] (MW E am th pg n on se al)) (QW (some (.int (iI 0))) (MW E am 1 pg n on se al) (AM am)) 0 0 (AM am) := by
  refine g_met (cc := cX2_startOf) (maxL := 3) (ret := (some .int)) (lv := [(0, .ref (am 0)), (1, .int (iI u)), (2, .int (iI k))]) (by decide) rfl (Nat.le_of_ble_eq_true rfl) rfl ?_
  intro xp xe xs xm xa xb xh xc S xK xr xlk xin
  have kf24 := S.2.2.2.2 (.fieldLink RX2 24 "BookIndexModel" "thrown" "I") (by decide +kernel)
  have hin2 : ∀ w ∈ wsX20, w ∈ wsX2_startOf := by decide +kernel
  refine g_aload_n S dX2_startOf_0 rfl 0 rfl ?_
  refine g_iconst S dX2_startOf_1 ?_
  refine g_put S xK (Wp' := MW E am 0 pg n on se al) (ref := "BookIndexModel") (ty := .int) hin2 tyX2 tyX2_ok nmX2 0 (by decide) (show vwCl[2]? = some (RX2, TX2, 6) from rfl) kf24 (fun _ h9 => h9) rfl (by decide +kernel) rfl rfl (fun _ h => mw_x h) (Nat.le_of_ble_eq_true rfl) (am_in (by omega)) (fun _ _ h hv _ oq => mw_sX hj h hv oq) dX2_startOf_2 ?_
  refine g_aload_n S dX2_startOf_5 rfl 0 rfl ?_
  refine g_iload_n S dX2_startOf_6 rfl 1 rfl ?_
  refine g_iload_n S dX2_startOf_7 rfl 2 rfl ?_
  refine g_callV S xK (As := [.int (iI u), .int (iI k)]) (st := []) (stk' := [.int (iI (pI (0 ≤ k ∧ k ≤ (sp u).1 - 1)))]) (Wp' := MW E am 0 pg n on se al) (r := (RX2, TX2, 6)) (m_X2_isSpan l E hj 0 pg n on se al sp u k (by omega) hn (by omega) hpg hrl hsp hon) (cwV 2 S.2.2.2.2 gX2_startOf_X2_isSpan rfl rfl rfl (by decide +kernel) ⟨Nat.le_of_ble_eq_true rfl, Nat.le_of_ble_eq_true rfl⟩) rfl rfl rfl rfl (Nat.le_of_ble_eq_true rfl) ⟨Nat.le_of_ble_eq_true rfl, Nat.le_of_ble_eq_true rfl⟩ (fun _ q => q.elim) (fun _ h => mw_x h) (fun _ h => h) (fun _ _ _ h _ _ => h) dX2_startOf_8 ?_
  have z11 := pI_b (0 ≤ k ∧ k ≤ (sp u).1 - 1)
  refine g_if_eq S (tgt := 23) dX2_startOf_11 (by decide) (by omega) (fun c11 => ?_) (fun c11 => ?_)
  · skip
    refine g_aload_n S dX2_startOf_23 rfl 0 rfl ?_
    refine g_iconst S dX2_startOf_24 ?_
    refine g_callV S xK (As := [.int (iI 1)]) (st := []) (stk' := [.int (iI 0)]) (Wp' := MW E am 1 pg n on se al) (r := (RX2, TX2, 6)) (m_X2_no l E hj 0 pg n on se al 1 ) (cwV 1 S.2.2.2.2 gX2_startOf_X2_no rfl rfl rfl (by decide +kernel) ⟨Nat.le_of_ble_eq_true rfl, Nat.le_of_ble_eq_true rfl⟩) rfl rfl rfl rfl (Nat.le_of_ble_eq_true rfl) ⟨Nat.le_of_ble_eq_true rfl, Nat.le_of_ble_eq_true rfl⟩ (fun _ q => q) (fun _ h => mw_x h) (fun _ h => h) (fun _ _ _ h _ _ => h) dX2_startOf_25 ?_
    exact g_iret S xr xlk dX2_startOf_28 (fun _ h => h)
  · skip
    exact absurd c11 (fun z => z (pI_f (P := 0 ≤ k ∧ k ≤ (sp u).1 - 1) (by omega)))
set_option maxHeartbeats 4000000 in
set_option maxRecDepth 100000 in
theorem m_X2_endOf (l : Launch) (E : EN) {am : Int → Nat} (hj : INM am) (th pg n : Int) (on se : Int → Int) (al : Int → Nat) (sp : Int → SpT) (u k : Int) (hh : 0 ≤ u ∧ u < n) (hn : 0 ≤ n ∧ n ≤ 24) (hk : 0 ≤ k ∧ k < (sp u).1) (hpg : 1 ≤ pg ∧ pg ≤ 300) (hrl : RPS on sp n) (hsp : SPV sp n pg) (hon : ∀ k, on k = 0 ∨ on k = 1) : Met l yX2_endOf wsX2_endOf ({ frames := 3, cells := 0, slots := 0, locals := 70 }) (CI E [.ref (am 0), .int (iI u), .int (iI k)] (MW E am th pg n on se al)) (QW (some (.int (iI ((sp u).2.2 k)))) (MW E am 0 pg n on se al) (AM am)) 0 0 (AM am) := by
  refine g_met (cc := cX2_endOf) (maxL := 3) (ret := (some .int)) (lv := [(0, .ref (am 0)), (1, .int (iI u)), (2, .int (iI k))]) (by decide) rfl (Nat.le_of_ble_eq_true rfl) rfl ?_
  intro xp xe xs xm xa xb xh xc S xK xr xlk xin
  have kf24 := S.2.2.2.2 (.fieldLink RX2 24 "BookIndexModel" "thrown" "I") (by decide +kernel)
  have hin2 : ∀ w ∈ wsX20, w ∈ wsX2_endOf := by decide +kernel
  have v9 := hsp u (by omega) (by omega)
  refine g_aload_n S dX2_endOf_0 rfl 0 rfl ?_
  refine g_iconst S dX2_endOf_1 ?_
  refine g_put S xK (Wp' := MW E am 0 pg n on se al) (ref := "BookIndexModel") (ty := .int) hin2 tyX2 tyX2_ok nmX2 0 (by decide) (show vwCl[2]? = some (RX2, TX2, 6) from rfl) kf24 (fun _ h9 => h9) rfl (by decide +kernel) rfl rfl (fun _ h => mw_x h) (Nat.le_of_ble_eq_true rfl) (am_in (by omega)) (fun _ _ h hv _ oq => mw_sX hj h hv oq) dX2_endOf_2 ?_
  refine g_aload_n S dX2_endOf_5 rfl 0 rfl ?_
  refine g_iload_n S dX2_endOf_6 rfl 1 rfl ?_
  refine g_iload_n S dX2_endOf_7 rfl 2 rfl ?_
  refine g_callV S xK (As := [.int (iI u), .int (iI k)]) (st := []) (stk' := [.int (iI (pI (0 ≤ k ∧ k ≤ (sp u).1 - 1)))]) (Wp' := MW E am 0 pg n on se al) (r := (RX2, TX2, 6)) (m_X2_isSpan l E hj 0 pg n on se al sp u k (by omega) hn (by omega) hpg hrl hsp hon) (cwV 2 S.2.2.2.2 gX2_endOf_X2_isSpan rfl rfl rfl (by decide +kernel) ⟨Nat.le_of_ble_eq_true rfl, Nat.le_of_ble_eq_true rfl⟩) rfl rfl rfl rfl (Nat.le_of_ble_eq_true rfl) ⟨Nat.le_of_ble_eq_true rfl, Nat.le_of_ble_eq_true rfl⟩ (fun _ q => q.elim) (fun _ h => mw_x h) (fun _ h => h) (fun _ _ _ h _ _ => h) dX2_endOf_8 ?_
  have z11 := pI_b (0 ≤ k ∧ k ≤ (sp u).1 - 1)
  refine g_if_eq S (tgt := 23) dX2_endOf_11 (by decide) (by omega) (fun c11 => ?_) (fun c11 => ?_)
  · skip
    exact absurd c11 (by rw [pI_t (P := 0 ≤ k ∧ k ≤ (sp u).1 - 1) (by omega)]; decide)
  · skip
    refine g_aload_n S dX2_endOf_14 rfl 0 rfl ?_
    refine g_iload_n S dX2_endOf_15 rfl 1 rfl ?_
    refine g_iload_n S dX2_endOf_16 rfl 2 rfl ?_
    refine g_callV S xK (As := [.int (iI u), .int (iI k)]) (st := []) (stk' := [.int (iI ((sp u).2.2 k))]) (Wp' := MW E am 0 pg n on se al) (r := (RX2, TX2, 6)) (m_X2_ends l E hj 0 pg n on se al (sp u) u k (by omega) (by omega) (by omega) hpg hon v9.1 (fun q q0 q1 => hrl u (by omega) (by omega) q q0 q1)) (cwV 2 S.2.2.2.2 gX2_endOf_X2_ends rfl rfl rfl (by decide +kernel) ⟨Nat.le_of_ble_eq_true rfl, Nat.le_of_ble_eq_true rfl⟩) rfl rfl rfl rfl (Nat.le_of_ble_eq_true rfl) ⟨Nat.le_of_ble_eq_true rfl, Nat.le_of_ble_eq_true rfl⟩ (fun _ q => q.elim) (fun _ h => mw_x h) (fun _ h => h) (fun _ _ _ h _ _ => h) dX2_endOf_17 ?_
    refine g_goto S (tgt := 28) dX2_endOf_20 (by decide) ?_
    exact g_iret S xr xlk dX2_endOf_28 (fun _ h => h)
set_option maxHeartbeats 4000000 in
set_option maxRecDepth 100000 in
theorem m_X2_endOfE (l : Launch) (E : EN) {am : Int → Nat} (hj : INM am) (th pg n : Int) (on se : Int → Int) (al : Int → Nat) (u k : Int) (hh : u < 0 ∨ n ≤ u) (hr : -2147483648 ≤ u ∧ u ≤ 2147483647) (hn : 0 ≤ n ∧ n ≤ 24) : Met l yX2_endOf wsX2_endOf ({ frames := 3, cells := 0, slots := 0, locals := 65 }) (CI E [.ref (am 0), .int (iI u), .int (iI k)] (MW E am th pg n on se al)) (QW (some (.int (iI 0))) (MW E am 1 pg n on se al) (AM am)) 0 0 (AM am) := by
  refine g_met (cc := cX2_endOf) (maxL := 3) (ret := (some .int)) (lv := [(0, .ref (am 0)), (1, .int (iI u)), (2, .int (iI k))]) (by decide) rfl (Nat.le_of_ble_eq_true rfl) rfl ?_
  intro xp xe xs xm xa xb xh xc S xK xr xlk xin
  have kf24 := S.2.2.2.2 (.fieldLink RX2 24 "BookIndexModel" "thrown" "I") (by decide +kernel)
  have hin2 : ∀ w ∈ wsX20, w ∈ wsX2_endOf := by decide +kernel
  refine g_aload_n S dX2_endOf_0 rfl 0 rfl ?_
  refine g_iconst S dX2_endOf_1 ?_
  refine g_put S xK (Wp' := MW E am 0 pg n on se al) (ref := "BookIndexModel") (ty := .int) hin2 tyX2 tyX2_ok nmX2 0 (by decide) (show vwCl[2]? = some (RX2, TX2, 6) from rfl) kf24 (fun _ h9 => h9) rfl (by decide +kernel) rfl rfl (fun _ h => mw_x h) (Nat.le_of_ble_eq_true rfl) (am_in (by omega)) (fun _ _ h hv _ oq => mw_sX hj h hv oq) dX2_endOf_2 ?_
  refine g_aload_n S dX2_endOf_5 rfl 0 rfl ?_
  refine g_iload_n S dX2_endOf_6 rfl 1 rfl ?_
  refine g_iload_n S dX2_endOf_7 rfl 2 rfl ?_
  refine g_callV S xK (As := [.int (iI u), .int (iI k)]) (st := []) (stk' := [.int (iI 0)]) (Wp' := MW E am 0 pg n on se al) (r := (RX2, TX2, 6)) (m_X2_isSpanE l E hj 0 pg n on se al u k (by omega) (by omega) hn) (cwV 2 S.2.2.2.2 gX2_endOf_X2_isSpan rfl rfl rfl (by decide +kernel) ⟨Nat.le_of_ble_eq_true rfl, Nat.le_of_ble_eq_true rfl⟩) rfl rfl rfl rfl (Nat.le_of_ble_eq_true rfl) ⟨Nat.le_of_ble_eq_true rfl, Nat.le_of_ble_eq_true rfl⟩ (fun _ q => q.elim) (fun _ h => mw_x h) (fun _ h => h) (fun _ _ _ h _ _ => h) dX2_endOf_8 ?_
  refine g_if_eq S (tgt := 23) dX2_endOf_11 (by decide) (by omega) (fun c11 => ?_) (fun c11 => ?_)
  · skip
    refine g_aload_n S dX2_endOf_23 rfl 0 rfl ?_
    refine g_iconst S dX2_endOf_24 ?_
    refine g_callV S xK (As := [.int (iI 1)]) (st := []) (stk' := [.int (iI 0)]) (Wp' := MW E am 1 pg n on se al) (r := (RX2, TX2, 6)) (m_X2_no l E hj 0 pg n on se al 1 ) (cwV 1 S.2.2.2.2 gX2_endOf_X2_no rfl rfl rfl (by decide +kernel) ⟨Nat.le_of_ble_eq_true rfl, Nat.le_of_ble_eq_true rfl⟩) rfl rfl rfl rfl (Nat.le_of_ble_eq_true rfl) ⟨Nat.le_of_ble_eq_true rfl, Nat.le_of_ble_eq_true rfl⟩ (fun _ q => q) (fun _ h => mw_x h) (fun _ h => h) (fun _ _ _ h _ _ => h) dX2_endOf_25 ?_
    exact g_iret S xr xlk dX2_endOf_28 (fun _ h => h)
  · skip
    exact absurd c11 (by decide)
set_option maxHeartbeats 4000000 in
set_option maxRecDepth 100000 in
theorem m_X2_endOfF (l : Launch) (E : EN) {am : Int → Nat} (hj : INM am) (th pg n : Int) (on se : Int → Int) (al : Int → Nat) (sp : Int → SpT) (u k : Int) (hh : 0 ≤ u ∧ u < n) (hn : 0 ≤ n ∧ n ≤ 24) (hk : k < 0 ∨ (sp u).1 ≤ k) (hr : -2147483648 ≤ k ∧ k ≤ 2147483647) (hpg : 1 ≤ pg ∧ pg ≤ 300) (hrl : RPS on sp n) (hsp : SPV sp n pg) (hon : ∀ k, on k = 0 ∨ on k = 1) : Met l yX2_endOf wsX2_endOf ({ frames := 3, cells := 0, slots := 0, locals := 70 }) (CI E [.ref (am 0), .int (iI u), .int (iI k)] (MW E am th pg n on se al)) (QW (some (.int (iI 0))) (MW E am 1 pg n on se al) (AM am)) 0 0 (AM am) := by
  refine g_met (cc := cX2_endOf) (maxL := 3) (ret := (some .int)) (lv := [(0, .ref (am 0)), (1, .int (iI u)), (2, .int (iI k))]) (by decide) rfl (Nat.le_of_ble_eq_true rfl) rfl ?_
  intro xp xe xs xm xa xb xh xc S xK xr xlk xin
  have kf24 := S.2.2.2.2 (.fieldLink RX2 24 "BookIndexModel" "thrown" "I") (by decide +kernel)
  have hin2 : ∀ w ∈ wsX20, w ∈ wsX2_endOf := by decide +kernel
  refine g_aload_n S dX2_endOf_0 rfl 0 rfl ?_
  refine g_iconst S dX2_endOf_1 ?_
  refine g_put S xK (Wp' := MW E am 0 pg n on se al) (ref := "BookIndexModel") (ty := .int) hin2 tyX2 tyX2_ok nmX2 0 (by decide) (show vwCl[2]? = some (RX2, TX2, 6) from rfl) kf24 (fun _ h9 => h9) rfl (by decide +kernel) rfl rfl (fun _ h => mw_x h) (Nat.le_of_ble_eq_true rfl) (am_in (by omega)) (fun _ _ h hv _ oq => mw_sX hj h hv oq) dX2_endOf_2 ?_
  refine g_aload_n S dX2_endOf_5 rfl 0 rfl ?_
  refine g_iload_n S dX2_endOf_6 rfl 1 rfl ?_
  refine g_iload_n S dX2_endOf_7 rfl 2 rfl ?_
  refine g_callV S xK (As := [.int (iI u), .int (iI k)]) (st := []) (stk' := [.int (iI (pI (0 ≤ k ∧ k ≤ (sp u).1 - 1)))]) (Wp' := MW E am 0 pg n on se al) (r := (RX2, TX2, 6)) (m_X2_isSpan l E hj 0 pg n on se al sp u k (by omega) hn (by omega) hpg hrl hsp hon) (cwV 2 S.2.2.2.2 gX2_endOf_X2_isSpan rfl rfl rfl (by decide +kernel) ⟨Nat.le_of_ble_eq_true rfl, Nat.le_of_ble_eq_true rfl⟩) rfl rfl rfl rfl (Nat.le_of_ble_eq_true rfl) ⟨Nat.le_of_ble_eq_true rfl, Nat.le_of_ble_eq_true rfl⟩ (fun _ q => q.elim) (fun _ h => mw_x h) (fun _ h => h) (fun _ _ _ h _ _ => h) dX2_endOf_8 ?_
  have z11 := pI_b (0 ≤ k ∧ k ≤ (sp u).1 - 1)
  refine g_if_eq S (tgt := 23) dX2_endOf_11 (by decide) (by omega) (fun c11 => ?_) (fun c11 => ?_)
  · skip
    refine g_aload_n S dX2_endOf_23 rfl 0 rfl ?_
    refine g_iconst S dX2_endOf_24 ?_
    refine g_callV S xK (As := [.int (iI 1)]) (st := []) (stk' := [.int (iI 0)]) (Wp' := MW E am 1 pg n on se al) (r := (RX2, TX2, 6)) (m_X2_no l E hj 0 pg n on se al 1 ) (cwV 1 S.2.2.2.2 gX2_endOf_X2_no rfl rfl rfl (by decide +kernel) ⟨Nat.le_of_ble_eq_true rfl, Nat.le_of_ble_eq_true rfl⟩) rfl rfl rfl rfl (Nat.le_of_ble_eq_true rfl) ⟨Nat.le_of_ble_eq_true rfl, Nat.le_of_ble_eq_true rfl⟩ (fun _ q => q) (fun _ h => mw_x h) (fun _ h => h) (fun _ _ _ h _ _ => h) dX2_endOf_25 ?_
    exact g_iret S xr xlk dX2_endOf_28 (fun _ h => h)
  · skip
    exact absurd c11 (fun z => z (pI_f (P := 0 ≤ k ∧ k ≤ (sp u).1 - 1) (by omega)))
set_option maxHeartbeats 4000000 in
set_option maxRecDepth 100000 in
theorem m_X2_addPages (l : Launch) (E : EN) {am : Int → Nat} (hj : INM am) (th pg n : Int) (on se : Int → Int) (al : Int → Nat) (sp : Int → SpT) (u fr to : Int) (hh : 0 ≤ u ∧ u < n) (hn : 0 ≤ n ∧ n ≤ 24) (hf : 1 ≤ fr ∧ fr ≤ to ∧ to ≤ pg) (hse : se u = -1) (hc : (spS (fun q => cov (sp u) q ∨ (fr ≤ q ∧ q ≤ to)) 0 pg.toNat).1 ≤ 8) (hpg : 1 ≤ pg ∧ pg ≤ 300) (hrl : RPS on sp n) (hsp : SPV sp n pg) (hon : ∀ k, on k = 0 ∨ on k = 1) : Met l yX2_addPages wsX2_addPages ({ frames := 2, cells := 0, slots := 0, locals := 50 }) (CI E [.ref (am 0), .int (iI u), .int (iI fr), .int (iI to)] (MW E am th pg n on se al)) (QW (some (.int (iI ((spS (fun q => cov (sp u) q ∨ (fr ≤ q ∧ q ≤ to)) 0 pg.toNat).1)))) (MW E am 0 pg n (ptO on (302 * u + fr) (302 * u + to) 1) se al) (AM am)) 0 0 (AM am) := by
  refine g_met (cc := cX2_addPages) (maxL := 4) (ret := (some .int)) (lv := [(0, .ref (am 0)), (1, .int (iI u)), (2, .int (iI fr)), (3, .int (iI to))]) (by decide) rfl (Nat.le_of_ble_eq_true rfl) rfl ?_
  intro xp xe xs xm xa xb xh xc S xK xr xlk xin
  have kf24 := S.2.2.2.2 (.fieldLink RX2 24 "BookIndexModel" "thrown" "I") (by decide +kernel)
  have kf17 := S.2.2.2.2 (.fieldLink RX2 17 "BookIndexModel" "see" "[I") (by decide +kernel)
  have hin2 : ∀ w ∈ wsX20, w ∈ wsX2_addPages := by decide +kernel
  refine g_aload_n S dX2_addPages_0 rfl 0 rfl ?_
  refine g_iconst S dX2_addPages_1 ?_
  refine g_put S xK (Wp' := MW E am 0 pg n on se al) (ref := "BookIndexModel") (ty := .int) hin2 tyX2 tyX2_ok nmX2 0 (by decide) (show vwCl[2]? = some (RX2, TX2, 6) from rfl) kf24 (fun _ h9 => h9) rfl (by decide +kernel) rfl rfl (fun _ h => mw_x h) (Nat.le_of_ble_eq_true rfl) (am_in (by omega)) (fun _ _ h hv _ oq => mw_sX hj h hv oq) dX2_addPages_2 ?_
  refine g_aload_n S dX2_addPages_5 rfl 0 rfl ?_
  refine g_iload_n S dX2_addPages_6 rfl 1 rfl ?_
  refine g_callV S xK (As := [.int (iI u)]) (st := []) (stk' := [.int (iI (pI (0 ≤ u ∧ u ≤ n - 1)))]) (Wp' := MW E am 0 pg n on se al) (r := (RX2, TX2, 6)) (m_X2_isHeading l E hj 0 pg n on se al u (by omega) hn) (cwV 1 S.2.2.2.2 gX2_addPages_X2_isHeading rfl rfl rfl (by decide +kernel) ⟨Nat.le_of_ble_eq_true rfl, Nat.le_of_ble_eq_true rfl⟩) rfl rfl rfl rfl (Nat.le_of_ble_eq_true rfl) ⟨Nat.le_of_ble_eq_true rfl, Nat.le_of_ble_eq_true rfl⟩ (fun _ q => q.elim) (fun _ h => mw_x h) (fun _ h => h) (fun _ _ _ h _ _ => h) dX2_addPages_7 ?_
  have z10 := pI_b (0 ≤ u ∧ u ≤ n - 1)
  refine g_if_ne S (tgt := 19) dX2_addPages_10 (by decide) (by omega) (fun c10 => ?_) (fun c10 => ?_)
  · skip
    refine g_aload_n S dX2_addPages_19 rfl 0 rfl ?_
    refine g_iload_n S dX2_addPages_20 rfl 2 rfl ?_
    refine g_iload_n S dX2_addPages_21 rfl 3 rfl ?_
    refine g_callV S xK (As := [.int (iI fr), .int (iI to)]) (st := []) (stk' := [.int (iI (pI (1 ≤ fr ∧ to ≤ pg ∧ fr ≤ to)))]) (Wp' := MW E am 0 pg n on se al) (r := (RX2, TX2, 6)) (m_X2_arePages l E hj 0 pg n on se al fr to (by omega) hpg) (cwV 2 S.2.2.2.2 gX2_addPages_X2_arePages rfl rfl rfl (by decide +kernel) ⟨Nat.le_of_ble_eq_true rfl, Nat.le_of_ble_eq_true rfl⟩) rfl rfl rfl rfl (Nat.le_of_ble_eq_true rfl) ⟨Nat.le_of_ble_eq_true rfl, Nat.le_of_ble_eq_true rfl⟩ (fun _ q => q.elim) (fun _ h => mw_x h) (fun _ h => h) (fun _ _ _ h _ _ => h) dX2_addPages_22 ?_
    have z25 := pI_b (1 ≤ fr ∧ to ≤ pg ∧ fr ≤ to)
    refine g_if_ne S (tgt := 34) dX2_addPages_25 (by decide) (by omega) (fun c25 => ?_) (fun c25 => ?_)
    · skip
      refine g_aload_n S dX2_addPages_34 rfl 0 rfl ?_
      refine g_get S xK (ref := "BookIndexModel") hin2 4 (by decide) (show vwCl[2]? = some (RX2, TX2, 6) from rfl) kf17 (fun _ h9 => h9) (fun _ h => mw_x h) rfl dX2_addPages_35 ?_
      refine g_iload_n S dX2_addPages_38 rfl 1 rfl ?_
      refine g_iald S xK (n := 24) (fun _ h => mw_se h) (by omega) (by decide) dX2_addPages_39 ?_
      refine g_iconst S dX2_addPages_40 ?_
      refine g_icmp_ne S (tgt := 57) dX2_addPages_41 (by decide) (by omega) (fun c41 => ?_) (fun c41 => ?_)
      · skip
        exact absurd c41 (by omega)
      · skip
        refine g_aload_n S dX2_addPages_44 rfl 0 rfl ?_
        refine g_iload_n S dX2_addPages_45 rfl 1 rfl ?_
        refine g_iload_n S dX2_addPages_46 rfl 2 rfl ?_
        refine g_iload_n S dX2_addPages_47 rfl 3 rfl ?_
        refine g_iconst S dX2_addPages_48 ?_
        refine g_callV S xK (As := [.int (iI u), .int (iI fr), .int (iI to), .int (iI 1)]) (st := []) (stk' := [.int (iI (smI (fun k => pI ((fun x => (fr ≤ x ∧ x ≤ to ∧ (1 : Int) = 1) ∨ (¬ (fr ≤ x ∧ x ≤ to) ∧ on (302 * u + x) = 1)) (k + 1) ∧ ¬ (fun x => (fr ≤ x ∧ x ≤ to ∧ (1 : Int) = 1) ∨ (¬ (fr ≤ x ∧ x ≤ to) ∧ on (302 * u + x) = 1)) k)) pg.toNat))]) (Wp' := MW E am 0 pg n on se al) (r := (RX2, TX2, 6)) (m_X2_spansWith l E hj 0 pg n on se al u fr to 1 (by omega) (by omega) (Or.inr rfl) (by have z := hrl u (by omega) (by omega) 0 (by decide) (by decide); rcases hon (302 * u + 0) with y | y; (· exact y); (· exact absurd (z.mp y) (cov_out (hsp u (by omega) (by omega)).1 (Or.inl (by decide))))) hpg hon) (cwV 4 S.2.2.2.2 gX2_addPages_X2_spansWith rfl rfl rfl (by decide +kernel) ⟨Nat.le_of_ble_eq_true rfl, Nat.le_of_ble_eq_true rfl⟩) rfl rfl rfl rfl (Nat.le_of_ble_eq_true rfl) ⟨Nat.le_of_ble_eq_true rfl, Nat.le_of_ble_eq_true rfl⟩ (fun _ q => q.elim) (fun _ h => mw_x h) (fun _ h => h) (fun _ _ _ h _ _ => h) dX2_addPages_49 ?_
        refine g_bipush S dX2_addPages_52 (by decide) ?_
        have e54 := rl_withOn hrl (pg := pg) (by omega) (h := u) (fr := fr) (to := to) (by omega) (by omega) (cov_out (hsp u (by omega) (by omega)).1 (Or.inl (by decide)))
        have b54 := spS_b (fun q => cov (sp u) q ∨ (fr ≤ q ∧ q ≤ to)) 0 pg.toNat
        refine g_icmp_le S (tgt := 63) dX2_addPages_54 (by decide) (by omega) (fun c54 => ?_) (fun c54 => ?_)
        · skip
          have rw9 := fun (q : Int) (q0 : 0 ≤ q) (q1 : q ≤ 301) => pt_row hrl (u := u) (a := fr) (b := to) (v := 1) (by omega) (by omega) (q := q) ⟨q0, q1⟩
          have on9 := ptO_01 hon (a := 302 * u + fr) (b := 302 * u + to) (v := 1) (Or.inr rfl)
          refine g_aload_n S dX2_addPages_63 rfl 0 rfl ?_
          refine g_iload_n S dX2_addPages_64 rfl 1 rfl ?_
          refine g_iload_n S dX2_addPages_65 rfl 2 rfl ?_
          refine g_iload_n S dX2_addPages_66 rfl 3 rfl ?_
          refine g_iconst S dX2_addPages_67 ?_
          refine g_callV S xK (As := [.int (iI u), .int (iI fr), .int (iI to), .int (iI 1)]) (st := []) (stk' := []) (Wp' := MW E am 0 pg n (ptO on (302 * u + fr) (302 * u + to) 1) se al) (r := (RX2, TX2, 6)) (m_X2_put l E hj 0 pg n on se al u fr to 1 (by omega) (by omega) (by omega)) (cwV 4 S.2.2.2.2 gX2_addPages_X2_put rfl rfl rfl (by decide +kernel) ⟨Nat.le_of_ble_eq_true rfl, Nat.le_of_ble_eq_true rfl⟩) rfl rfl rfl rfl (Nat.le_of_ble_eq_true rfl) ⟨Nat.le_of_ble_eq_true rfl, Nat.le_of_ble_eq_true rfl⟩ (fun _ q => q) (fun _ h => mw_x h) (fun _ h => h) (fun _ _ _ h _ _ => h) dX2_addPages_68 ?_
          refine g_aload_n S dX2_addPages_71 rfl 0 rfl ?_
          refine g_iload_n S dX2_addPages_72 rfl 1 rfl ?_
          refine g_iload_n S dX2_addPages_73 rfl 1 rfl ?_
          refine g_iconst S dX2_addPages_74 ?_
          refine g_callV S xK (As := [.int (iI u), .int (iI u), .int (iI 0)]) (st := []) (stk' := [.int (iI ((spS (fun x => (ptO on (302 * u + fr) (302 * u + to) 1) (302 * u + x) = 1 ∨ (ptO on (302 * u + fr) (302 * u + to) 1) (302 * u + x) = 1) 0 pg.toNat).1))]) (Wp' := MW E am 0 pg n (ptO on (302 * u + fr) (302 * u + to) 1) se al) (r := (RX2, TX2, 6)) (m_X2_spans l E hj 0 pg n (ptO on (302 * u + fr) (302 * u + to) 1) se al u u 0 (by omega) (by omega) (by omega) hpg on9) (cwV 3 S.2.2.2.2 gX2_addPages_X2_spans rfl rfl rfl (by decide +kernel) ⟨Nat.le_of_ble_eq_true rfl, Nat.le_of_ble_eq_true rfl⟩) rfl rfl rfl rfl (Nat.le_of_ble_eq_true rfl) ⟨Nat.le_of_ble_eq_true rfl, Nat.le_of_ble_eq_true rfl⟩ (fun _ q => q.elim) (fun _ h => mw_x h) (fun _ h => h) (fun _ _ _ h _ _ => h) dX2_addPages_75 ?_
          rw [show ((spS (fun q => cov (sp u) q ∨ (fr ≤ q ∧ q ≤ to)) 0 pg.toNat).1) = ((spS (fun x => (ptO on (302 * u + fr) (302 * u + to) 1) (302 * u + x) = 1 ∨ (ptO on (302 * u + fr) (302 * u + to) 1) (302 * u + x) = 1) 0 pg.toNat).1) from congrArg Prod.fst (spS_c (fun q q0 q1 => ((or_self_iff).trans ((rw9 q (by omega) (by omega)).trans (by by_cases z : fr ≤ q ∧ q ≤ to; (· rw [if_pos z]; exact ⟨fun _ => Or.inr z, fun _ => rfl⟩); (· rw [if_neg z]; exact ⟨Or.inl, fun y => y.elim id (fun y => (z y).elim)⟩)))).symm))]
          exact g_iret S xr xlk dX2_addPages_78 (fun _ h => h)
        · skip
          exact absurd c54 (by omega)
    · skip
      exact absurd c25 (by rw [pI_t (P := 1 ≤ fr ∧ to ≤ pg ∧ fr ≤ to) (by omega)]; decide)
  · skip
    exact absurd c10 (by rw [pI_t (P := 0 ≤ u ∧ u ≤ n - 1) (by omega)]; decide)
set_option maxHeartbeats 4000000 in
set_option maxRecDepth 100000 in
theorem m_X2_addPagesE (l : Launch) (E : EN) {am : Int → Nat} (hj : INM am) (th pg n : Int) (on se : Int → Int) (al : Int → Nat) (u fr to : Int) (hh : u < 0 ∨ n ≤ u) (hr : -2147483648 ≤ u ∧ u ≤ 2147483647) (hn : 0 ≤ n ∧ n ≤ 24) : Met l yX2_addPages wsX2_addPages ({ frames := 2, cells := 0, slots := 0, locals := 43 }) (CI E [.ref (am 0), .int (iI u), .int (iI fr), .int (iI to)] (MW E am th pg n on se al)) (QW (some (.int (iI 0))) (MW E am 1 pg n on se al) (AM am)) 0 0 (AM am) := by
  refine g_met (cc := cX2_addPages) (maxL := 4) (ret := (some .int)) (lv := [(0, .ref (am 0)), (1, .int (iI u)), (2, .int (iI fr)), (3, .int (iI to))]) (by decide) rfl (Nat.le_of_ble_eq_true rfl) rfl ?_
  intro xp xe xs xm xa xb xh xc S xK xr xlk xin
  have kf24 := S.2.2.2.2 (.fieldLink RX2 24 "BookIndexModel" "thrown" "I") (by decide +kernel)
  have hin2 : ∀ w ∈ wsX20, w ∈ wsX2_addPages := by decide +kernel
  refine g_aload_n S dX2_addPages_0 rfl 0 rfl ?_
  refine g_iconst S dX2_addPages_1 ?_
  refine g_put S xK (Wp' := MW E am 0 pg n on se al) (ref := "BookIndexModel") (ty := .int) hin2 tyX2 tyX2_ok nmX2 0 (by decide) (show vwCl[2]? = some (RX2, TX2, 6) from rfl) kf24 (fun _ h9 => h9) rfl (by decide +kernel) rfl rfl (fun _ h => mw_x h) (Nat.le_of_ble_eq_true rfl) (am_in (by omega)) (fun _ _ h hv _ oq => mw_sX hj h hv oq) dX2_addPages_2 ?_
  refine g_aload_n S dX2_addPages_5 rfl 0 rfl ?_
  refine g_iload_n S dX2_addPages_6 rfl 1 rfl ?_
  refine g_callV S xK (As := [.int (iI u)]) (st := []) (stk' := [.int (iI (pI (0 ≤ u ∧ u ≤ n - 1)))]) (Wp' := MW E am 0 pg n on se al) (r := (RX2, TX2, 6)) (m_X2_isHeading l E hj 0 pg n on se al u (by omega) hn) (cwV 1 S.2.2.2.2 gX2_addPages_X2_isHeading rfl rfl rfl (by decide +kernel) ⟨Nat.le_of_ble_eq_true rfl, Nat.le_of_ble_eq_true rfl⟩) rfl rfl rfl rfl (Nat.le_of_ble_eq_true rfl) ⟨Nat.le_of_ble_eq_true rfl, Nat.le_of_ble_eq_true rfl⟩ (fun _ q => q.elim) (fun _ h => mw_x h) (fun _ h => h) (fun _ _ _ h _ _ => h) dX2_addPages_7 ?_
  have z10 := pI_b (0 ≤ u ∧ u ≤ n - 1)
  refine g_if_ne S (tgt := 19) dX2_addPages_10 (by decide) (by omega) (fun c10 => ?_) (fun c10 => ?_)
  · skip
    exact absurd c10 (fun z => z (pI_f (P := 0 ≤ u ∧ u ≤ n - 1) (by omega)))
  · skip
    refine g_aload_n S dX2_addPages_13 rfl 0 rfl ?_
    refine g_iconst S dX2_addPages_14 ?_
    refine g_callV S xK (As := [.int (iI 1)]) (st := []) (stk' := [.int (iI 0)]) (Wp' := MW E am 1 pg n on se al) (r := (RX2, TX2, 6)) (m_X2_no l E hj 0 pg n on se al 1 ) (cwV 1 S.2.2.2.2 gX2_addPages_X2_no rfl rfl rfl (by decide +kernel) ⟨Nat.le_of_ble_eq_true rfl, Nat.le_of_ble_eq_true rfl⟩) rfl rfl rfl rfl (Nat.le_of_ble_eq_true rfl) ⟨Nat.le_of_ble_eq_true rfl, Nat.le_of_ble_eq_true rfl⟩ (fun _ q => q) (fun _ h => mw_x h) (fun _ h => h) (fun _ _ _ h _ _ => h) dX2_addPages_15 ?_
    exact g_iret S xr xlk dX2_addPages_18 (fun _ h => h)
set_option maxHeartbeats 4000000 in
set_option maxRecDepth 100000 in
theorem m_X2_addPagesF (l : Launch) (E : EN) {am : Int → Nat} (hj : INM am) (th pg n : Int) (on se : Int → Int) (al : Int → Nat) (u fr to : Int) (hh : 0 ≤ u ∧ u < n) (hn : 0 ≤ n ∧ n ≤ 24) (hf : fr < 1 ∨ to < fr ∨ pg < to) (hr : -2147483648 ≤ fr ∧ fr ≤ 2147483647 ∧ -2147483648 ≤ to ∧ to ≤ 2147483647) (hpg : 1 ≤ pg ∧ pg ≤ 300) : Met l yX2_addPages wsX2_addPages ({ frames := 2, cells := 0, slots := 0, locals := 43 }) (CI E [.ref (am 0), .int (iI u), .int (iI fr), .int (iI to)] (MW E am th pg n on se al)) (QW (some (.int (iI 0))) (MW E am 2 pg n on se al) (AM am)) 0 0 (AM am) := by
  refine g_met (cc := cX2_addPages) (maxL := 4) (ret := (some .int)) (lv := [(0, .ref (am 0)), (1, .int (iI u)), (2, .int (iI fr)), (3, .int (iI to))]) (by decide) rfl (Nat.le_of_ble_eq_true rfl) rfl ?_
  intro xp xe xs xm xa xb xh xc S xK xr xlk xin
  have kf24 := S.2.2.2.2 (.fieldLink RX2 24 "BookIndexModel" "thrown" "I") (by decide +kernel)
  have hin2 : ∀ w ∈ wsX20, w ∈ wsX2_addPages := by decide +kernel
  refine g_aload_n S dX2_addPages_0 rfl 0 rfl ?_
  refine g_iconst S dX2_addPages_1 ?_
  refine g_put S xK (Wp' := MW E am 0 pg n on se al) (ref := "BookIndexModel") (ty := .int) hin2 tyX2 tyX2_ok nmX2 0 (by decide) (show vwCl[2]? = some (RX2, TX2, 6) from rfl) kf24 (fun _ h9 => h9) rfl (by decide +kernel) rfl rfl (fun _ h => mw_x h) (Nat.le_of_ble_eq_true rfl) (am_in (by omega)) (fun _ _ h hv _ oq => mw_sX hj h hv oq) dX2_addPages_2 ?_
  refine g_aload_n S dX2_addPages_5 rfl 0 rfl ?_
  refine g_iload_n S dX2_addPages_6 rfl 1 rfl ?_
  refine g_callV S xK (As := [.int (iI u)]) (st := []) (stk' := [.int (iI (pI (0 ≤ u ∧ u ≤ n - 1)))]) (Wp' := MW E am 0 pg n on se al) (r := (RX2, TX2, 6)) (m_X2_isHeading l E hj 0 pg n on se al u (by omega) hn) (cwV 1 S.2.2.2.2 gX2_addPages_X2_isHeading rfl rfl rfl (by decide +kernel) ⟨Nat.le_of_ble_eq_true rfl, Nat.le_of_ble_eq_true rfl⟩) rfl rfl rfl rfl (Nat.le_of_ble_eq_true rfl) ⟨Nat.le_of_ble_eq_true rfl, Nat.le_of_ble_eq_true rfl⟩ (fun _ q => q.elim) (fun _ h => mw_x h) (fun _ h => h) (fun _ _ _ h _ _ => h) dX2_addPages_7 ?_
  have z10 := pI_b (0 ≤ u ∧ u ≤ n - 1)
  refine g_if_ne S (tgt := 19) dX2_addPages_10 (by decide) (by omega) (fun c10 => ?_) (fun c10 => ?_)
  · skip
    refine g_aload_n S dX2_addPages_19 rfl 0 rfl ?_
    refine g_iload_n S dX2_addPages_20 rfl 2 rfl ?_
    refine g_iload_n S dX2_addPages_21 rfl 3 rfl ?_
    refine g_callV S xK (As := [.int (iI fr), .int (iI to)]) (st := []) (stk' := [.int (iI (pI (1 ≤ fr ∧ to ≤ pg ∧ fr ≤ to)))]) (Wp' := MW E am 0 pg n on se al) (r := (RX2, TX2, 6)) (m_X2_arePages l E hj 0 pg n on se al fr to (by omega) hpg) (cwV 2 S.2.2.2.2 gX2_addPages_X2_arePages rfl rfl rfl (by decide +kernel) ⟨Nat.le_of_ble_eq_true rfl, Nat.le_of_ble_eq_true rfl⟩) rfl rfl rfl rfl (Nat.le_of_ble_eq_true rfl) ⟨Nat.le_of_ble_eq_true rfl, Nat.le_of_ble_eq_true rfl⟩ (fun _ q => q.elim) (fun _ h => mw_x h) (fun _ h => h) (fun _ _ _ h _ _ => h) dX2_addPages_22 ?_
    have z25 := pI_b (1 ≤ fr ∧ to ≤ pg ∧ fr ≤ to)
    refine g_if_ne S (tgt := 34) dX2_addPages_25 (by decide) (by omega) (fun c25 => ?_) (fun c25 => ?_)
    · skip
      exact absurd c25 (fun z => z (pI_f (P := 1 ≤ fr ∧ to ≤ pg ∧ fr ≤ to) (by omega)))
    · skip
      refine g_aload_n S dX2_addPages_28 rfl 0 rfl ?_
      refine g_iconst S dX2_addPages_29 ?_
      refine g_callV S xK (As := [.int (iI 2)]) (st := []) (stk' := [.int (iI 0)]) (Wp' := MW E am 2 pg n on se al) (r := (RX2, TX2, 6)) (m_X2_no l E hj 0 pg n on se al 2 ) (cwV 1 S.2.2.2.2 gX2_addPages_X2_no rfl rfl rfl (by decide +kernel) ⟨Nat.le_of_ble_eq_true rfl, Nat.le_of_ble_eq_true rfl⟩) rfl rfl rfl rfl (Nat.le_of_ble_eq_true rfl) ⟨Nat.le_of_ble_eq_true rfl, Nat.le_of_ble_eq_true rfl⟩ (fun _ q => q) (fun _ h => mw_x h) (fun _ h => h) (fun _ _ _ h _ _ => h) dX2_addPages_30 ?_
      exact g_iret S xr xlk dX2_addPages_33 (fun _ h => h)
  · skip
    exact absurd c10 (by rw [pI_t (P := 0 ≤ u ∧ u ≤ n - 1) (by omega)]; decide)
set_option maxHeartbeats 4000000 in
set_option maxRecDepth 100000 in
theorem m_X2_takePagesE (l : Launch) (E : EN) {am : Int → Nat} (hj : INM am) (th pg n : Int) (on se : Int → Int) (al : Int → Nat) (u fr to : Int) (hh : u < 0 ∨ n ≤ u) (hr : -2147483648 ≤ u ∧ u ≤ 2147483647) (hn : 0 ≤ n ∧ n ≤ 24) : Met l yX2_takePages wsX2_takePages ({ frames := 2, cells := 0, slots := 0, locals := 43 }) (CI E [.ref (am 0), .int (iI u), .int (iI fr), .int (iI to)] (MW E am th pg n on se al)) (QW (some (.int (iI 0))) (MW E am 1 pg n on se al) (AM am)) 0 0 (AM am) := by
  refine g_met (cc := cX2_takePages) (maxL := 5) (ret := (some .int)) (lv := [(0, .ref (am 0)), (1, .int (iI u)), (2, .int (iI fr)), (3, .int (iI to))]) (by decide) rfl (Nat.le_of_ble_eq_true rfl) rfl ?_
  intro xp xe xs xm xa xb xh xc S xK xr xlk xin
  have kf24 := S.2.2.2.2 (.fieldLink RX2 24 "BookIndexModel" "thrown" "I") (by decide +kernel)
  have hin2 : ∀ w ∈ wsX20, w ∈ wsX2_takePages := by decide +kernel
  refine g_aload_n S dX2_takePages_0 rfl 0 rfl ?_
  refine g_iconst S dX2_takePages_1 ?_
  refine g_put S xK (Wp' := MW E am 0 pg n on se al) (ref := "BookIndexModel") (ty := .int) hin2 tyX2 tyX2_ok nmX2 0 (by decide) (show vwCl[2]? = some (RX2, TX2, 6) from rfl) kf24 (fun _ h9 => h9) rfl (by decide +kernel) rfl rfl (fun _ h => mw_x h) (Nat.le_of_ble_eq_true rfl) (am_in (by omega)) (fun _ _ h hv _ oq => mw_sX hj h hv oq) dX2_takePages_2 ?_
  refine g_aload_n S dX2_takePages_5 rfl 0 rfl ?_
  refine g_iload_n S dX2_takePages_6 rfl 1 rfl ?_
  refine g_callV S xK (As := [.int (iI u)]) (st := []) (stk' := [.int (iI (pI (0 ≤ u ∧ u ≤ n - 1)))]) (Wp' := MW E am 0 pg n on se al) (r := (RX2, TX2, 6)) (m_X2_isHeading l E hj 0 pg n on se al u (by omega) hn) (cwV 1 S.2.2.2.2 gX2_takePages_X2_isHeading rfl rfl rfl (by decide +kernel) ⟨Nat.le_of_ble_eq_true rfl, Nat.le_of_ble_eq_true rfl⟩) rfl rfl rfl rfl (Nat.le_of_ble_eq_true rfl) ⟨Nat.le_of_ble_eq_true rfl, Nat.le_of_ble_eq_true rfl⟩ (fun _ q => q.elim) (fun _ h => mw_x h) (fun _ h => h) (fun _ _ _ h _ _ => h) dX2_takePages_7 ?_
  have z10 := pI_b (0 ≤ u ∧ u ≤ n - 1)
  refine g_if_ne S (tgt := 19) dX2_takePages_10 (by decide) (by omega) (fun c10 => ?_) (fun c10 => ?_)
  · skip
    exact absurd c10 (fun z => z (pI_f (P := 0 ≤ u ∧ u ≤ n - 1) (by omega)))
  · skip
    refine g_aload_n S dX2_takePages_13 rfl 0 rfl ?_
    refine g_iconst S dX2_takePages_14 ?_
    refine g_callV S xK (As := [.int (iI 1)]) (st := []) (stk' := [.int (iI 0)]) (Wp' := MW E am 1 pg n on se al) (r := (RX2, TX2, 6)) (m_X2_no l E hj 0 pg n on se al 1 ) (cwV 1 S.2.2.2.2 gX2_takePages_X2_no rfl rfl rfl (by decide +kernel) ⟨Nat.le_of_ble_eq_true rfl, Nat.le_of_ble_eq_true rfl⟩) rfl rfl rfl rfl (Nat.le_of_ble_eq_true rfl) ⟨Nat.le_of_ble_eq_true rfl, Nat.le_of_ble_eq_true rfl⟩ (fun _ q => q) (fun _ h => mw_x h) (fun _ h => h) (fun _ _ _ h _ _ => h) dX2_takePages_15 ?_
    exact g_iret S xr xlk dX2_takePages_18 (fun _ h => h)
set_option maxHeartbeats 4000000 in
set_option maxRecDepth 100000 in
theorem m_X2_takePagesF (l : Launch) (E : EN) {am : Int → Nat} (hj : INM am) (th pg n : Int) (on se : Int → Int) (al : Int → Nat) (u fr to : Int) (hh : 0 ≤ u ∧ u < n) (hn : 0 ≤ n ∧ n ≤ 24) (hf : fr < 1 ∨ to < fr ∨ pg < to) (hr : -2147483648 ≤ fr ∧ fr ≤ 2147483647 ∧ -2147483648 ≤ to ∧ to ≤ 2147483647) (hpg : 1 ≤ pg ∧ pg ≤ 300) : Met l yX2_takePages wsX2_takePages ({ frames := 2, cells := 0, slots := 0, locals := 43 }) (CI E [.ref (am 0), .int (iI u), .int (iI fr), .int (iI to)] (MW E am th pg n on se al)) (QW (some (.int (iI 0))) (MW E am 2 pg n on se al) (AM am)) 0 0 (AM am) := by
  refine g_met (cc := cX2_takePages) (maxL := 5) (ret := (some .int)) (lv := [(0, .ref (am 0)), (1, .int (iI u)), (2, .int (iI fr)), (3, .int (iI to))]) (by decide) rfl (Nat.le_of_ble_eq_true rfl) rfl ?_
  intro xp xe xs xm xa xb xh xc S xK xr xlk xin
  have kf24 := S.2.2.2.2 (.fieldLink RX2 24 "BookIndexModel" "thrown" "I") (by decide +kernel)
  have hin2 : ∀ w ∈ wsX20, w ∈ wsX2_takePages := by decide +kernel
  refine g_aload_n S dX2_takePages_0 rfl 0 rfl ?_
  refine g_iconst S dX2_takePages_1 ?_
  refine g_put S xK (Wp' := MW E am 0 pg n on se al) (ref := "BookIndexModel") (ty := .int) hin2 tyX2 tyX2_ok nmX2 0 (by decide) (show vwCl[2]? = some (RX2, TX2, 6) from rfl) kf24 (fun _ h9 => h9) rfl (by decide +kernel) rfl rfl (fun _ h => mw_x h) (Nat.le_of_ble_eq_true rfl) (am_in (by omega)) (fun _ _ h hv _ oq => mw_sX hj h hv oq) dX2_takePages_2 ?_
  refine g_aload_n S dX2_takePages_5 rfl 0 rfl ?_
  refine g_iload_n S dX2_takePages_6 rfl 1 rfl ?_
  refine g_callV S xK (As := [.int (iI u)]) (st := []) (stk' := [.int (iI (pI (0 ≤ u ∧ u ≤ n - 1)))]) (Wp' := MW E am 0 pg n on se al) (r := (RX2, TX2, 6)) (m_X2_isHeading l E hj 0 pg n on se al u (by omega) hn) (cwV 1 S.2.2.2.2 gX2_takePages_X2_isHeading rfl rfl rfl (by decide +kernel) ⟨Nat.le_of_ble_eq_true rfl, Nat.le_of_ble_eq_true rfl⟩) rfl rfl rfl rfl (Nat.le_of_ble_eq_true rfl) ⟨Nat.le_of_ble_eq_true rfl, Nat.le_of_ble_eq_true rfl⟩ (fun _ q => q.elim) (fun _ h => mw_x h) (fun _ h => h) (fun _ _ _ h _ _ => h) dX2_takePages_7 ?_
  have z10 := pI_b (0 ≤ u ∧ u ≤ n - 1)
  refine g_if_ne S (tgt := 19) dX2_takePages_10 (by decide) (by omega) (fun c10 => ?_) (fun c10 => ?_)
  · skip
    refine g_aload_n S dX2_takePages_19 rfl 0 rfl ?_
    refine g_iload_n S dX2_takePages_20 rfl 2 rfl ?_
    refine g_iload_n S dX2_takePages_21 rfl 3 rfl ?_
    refine g_callV S xK (As := [.int (iI fr), .int (iI to)]) (st := []) (stk' := [.int (iI (pI (1 ≤ fr ∧ to ≤ pg ∧ fr ≤ to)))]) (Wp' := MW E am 0 pg n on se al) (r := (RX2, TX2, 6)) (m_X2_arePages l E hj 0 pg n on se al fr to (by omega) hpg) (cwV 2 S.2.2.2.2 gX2_takePages_X2_arePages rfl rfl rfl (by decide +kernel) ⟨Nat.le_of_ble_eq_true rfl, Nat.le_of_ble_eq_true rfl⟩) rfl rfl rfl rfl (Nat.le_of_ble_eq_true rfl) ⟨Nat.le_of_ble_eq_true rfl, Nat.le_of_ble_eq_true rfl⟩ (fun _ q => q.elim) (fun _ h => mw_x h) (fun _ h => h) (fun _ _ _ h _ _ => h) dX2_takePages_22 ?_
    have z25 := pI_b (1 ≤ fr ∧ to ≤ pg ∧ fr ≤ to)
    refine g_if_ne S (tgt := 34) dX2_takePages_25 (by decide) (by omega) (fun c25 => ?_) (fun c25 => ?_)
    · skip
      exact absurd c25 (fun z => z (pI_f (P := 1 ≤ fr ∧ to ≤ pg ∧ fr ≤ to) (by omega)))
    · skip
      refine g_aload_n S dX2_takePages_28 rfl 0 rfl ?_
      refine g_iconst S dX2_takePages_29 ?_
      refine g_callV S xK (As := [.int (iI 2)]) (st := []) (stk' := [.int (iI 0)]) (Wp' := MW E am 2 pg n on se al) (r := (RX2, TX2, 6)) (m_X2_no l E hj 0 pg n on se al 2 ) (cwV 1 S.2.2.2.2 gX2_takePages_X2_no rfl rfl rfl (by decide +kernel) ⟨Nat.le_of_ble_eq_true rfl, Nat.le_of_ble_eq_true rfl⟩) rfl rfl rfl rfl (Nat.le_of_ble_eq_true rfl) ⟨Nat.le_of_ble_eq_true rfl, Nat.le_of_ble_eq_true rfl⟩ (fun _ q => q) (fun _ h => mw_x h) (fun _ h => h) (fun _ _ _ h _ _ => h) dX2_takePages_30 ?_
      exact g_iret S xr xlk dX2_takePages_33 (fun _ h => h)
  · skip
    exact absurd c10 (by rw [pI_t (P := 0 ≤ u ∧ u ≤ n - 1) (by omega)]; decide)
set_option maxHeartbeats 4000000 in
set_option maxRecDepth 100000 in
theorem m_X2_addPagesG (l : Launch) (E : EN) {am : Int → Nat} (hj : INM am) (th pg n : Int) (on se : Int → Int) (al : Int → Nat) (u fr to : Int) (hh : 0 ≤ u ∧ u < n) (hn : 0 ≤ n ∧ n ≤ 24) (hf : 1 ≤ fr ∧ fr ≤ to ∧ to ≤ pg) (hse : se u ≠ -1) (hgr : GR se al n) (hpg : 1 ≤ pg ∧ pg ≤ 300) : Met l yX2_addPages wsX2_addPages ({ frames := 2, cells := 0, slots := 0, locals := 43 }) (CI E [.ref (am 0), .int (iI u), .int (iI fr), .int (iI to)] (MW E am th pg n on se al)) (QW (some (.int (iI 0))) (MW E am 3 pg n on se al) (AM am)) 0 0 (AM am) := by
  refine g_met (cc := cX2_addPages) (maxL := 4) (ret := (some .int)) (lv := [(0, .ref (am 0)), (1, .int (iI u)), (2, .int (iI fr)), (3, .int (iI to))]) (by decide) rfl (Nat.le_of_ble_eq_true rfl) rfl ?_
  intro xp xe xs xm xa xb xh xc S xK xr xlk xin
  have kf24 := S.2.2.2.2 (.fieldLink RX2 24 "BookIndexModel" "thrown" "I") (by decide +kernel)
  have kf17 := S.2.2.2.2 (.fieldLink RX2 17 "BookIndexModel" "see" "[I") (by decide +kernel)
  have hin2 : ∀ w ∈ wsX20, w ∈ wsX2_addPages := by decide +kernel
  refine g_aload_n S dX2_addPages_0 rfl 0 rfl ?_
  refine g_iconst S dX2_addPages_1 ?_
  refine g_put S xK (Wp' := MW E am 0 pg n on se al) (ref := "BookIndexModel") (ty := .int) hin2 tyX2 tyX2_ok nmX2 0 (by decide) (show vwCl[2]? = some (RX2, TX2, 6) from rfl) kf24 (fun _ h9 => h9) rfl (by decide +kernel) rfl rfl (fun _ h => mw_x h) (Nat.le_of_ble_eq_true rfl) (am_in (by omega)) (fun _ _ h hv _ oq => mw_sX hj h hv oq) dX2_addPages_2 ?_
  refine g_aload_n S dX2_addPages_5 rfl 0 rfl ?_
  refine g_iload_n S dX2_addPages_6 rfl 1 rfl ?_
  refine g_callV S xK (As := [.int (iI u)]) (st := []) (stk' := [.int (iI (pI (0 ≤ u ∧ u ≤ n - 1)))]) (Wp' := MW E am 0 pg n on se al) (r := (RX2, TX2, 6)) (m_X2_isHeading l E hj 0 pg n on se al u (by omega) hn) (cwV 1 S.2.2.2.2 gX2_addPages_X2_isHeading rfl rfl rfl (by decide +kernel) ⟨Nat.le_of_ble_eq_true rfl, Nat.le_of_ble_eq_true rfl⟩) rfl rfl rfl rfl (Nat.le_of_ble_eq_true rfl) ⟨Nat.le_of_ble_eq_true rfl, Nat.le_of_ble_eq_true rfl⟩ (fun _ q => q.elim) (fun _ h => mw_x h) (fun _ h => h) (fun _ _ _ h _ _ => h) dX2_addPages_7 ?_
  have z10 := pI_b (0 ≤ u ∧ u ≤ n - 1)
  refine g_if_ne S (tgt := 19) dX2_addPages_10 (by decide) (by omega) (fun c10 => ?_) (fun c10 => ?_)
  · skip
    refine g_aload_n S dX2_addPages_19 rfl 0 rfl ?_
    refine g_iload_n S dX2_addPages_20 rfl 2 rfl ?_
    refine g_iload_n S dX2_addPages_21 rfl 3 rfl ?_
    refine g_callV S xK (As := [.int (iI fr), .int (iI to)]) (st := []) (stk' := [.int (iI (pI (1 ≤ fr ∧ to ≤ pg ∧ fr ≤ to)))]) (Wp' := MW E am 0 pg n on se al) (r := (RX2, TX2, 6)) (m_X2_arePages l E hj 0 pg n on se al fr to (by omega) hpg) (cwV 2 S.2.2.2.2 gX2_addPages_X2_arePages rfl rfl rfl (by decide +kernel) ⟨Nat.le_of_ble_eq_true rfl, Nat.le_of_ble_eq_true rfl⟩) rfl rfl rfl rfl (Nat.le_of_ble_eq_true rfl) ⟨Nat.le_of_ble_eq_true rfl, Nat.le_of_ble_eq_true rfl⟩ (fun _ q => q.elim) (fun _ h => mw_x h) (fun _ h => h) (fun _ _ _ h _ _ => h) dX2_addPages_22 ?_
    have z25 := pI_b (1 ≤ fr ∧ to ≤ pg ∧ fr ≤ to)
    refine g_if_ne S (tgt := 34) dX2_addPages_25 (by decide) (by omega) (fun c25 => ?_) (fun c25 => ?_)
    · skip
      refine g_aload_n S dX2_addPages_34 rfl 0 rfl ?_
      refine g_get S xK (ref := "BookIndexModel") hin2 4 (by decide) (show vwCl[2]? = some (RX2, TX2, 6) from rfl) kf17 (fun _ h9 => h9) (fun _ h => mw_x h) rfl dX2_addPages_35 ?_
      refine g_iload_n S dX2_addPages_38 rfl 1 rfl ?_
      refine g_iald S xK (n := 24) (fun _ h => mw_se h) (by omega) (by decide) dX2_addPages_39 ?_
      refine g_iconst S dX2_addPages_40 ?_
      have s41 := hgr.1 u (by omega) (by omega)
      refine g_icmp_ne S (tgt := 57) dX2_addPages_41 (by decide) (by omega) (fun c41 => ?_) (fun c41 => ?_)
      · skip
        refine g_aload_n S dX2_addPages_57 rfl 0 rfl ?_
        refine g_iconst S dX2_addPages_58 ?_
        refine g_callV S xK (As := [.int (iI 3)]) (st := []) (stk' := [.int (iI 0)]) (Wp' := MW E am 3 pg n on se al) (r := (RX2, TX2, 6)) (m_X2_no l E hj 0 pg n on se al 3 ) (cwV 1 S.2.2.2.2 gX2_addPages_X2_no rfl rfl rfl (by decide +kernel) ⟨Nat.le_of_ble_eq_true rfl, Nat.le_of_ble_eq_true rfl⟩) rfl rfl rfl rfl (Nat.le_of_ble_eq_true rfl) ⟨Nat.le_of_ble_eq_true rfl, Nat.le_of_ble_eq_true rfl⟩ (fun _ q => q) (fun _ h => mw_x h) (fun _ h => h) (fun _ _ _ h _ _ => h) dX2_addPages_59 ?_
        exact g_iret S xr xlk dX2_addPages_62 (fun _ h => h)
      · skip
        exact absurd c41 (by omega)
    · skip
      exact absurd c25 (by rw [pI_t (P := 1 ≤ fr ∧ to ≤ pg ∧ fr ≤ to) (by omega)]; decide)
  · skip
    exact absurd c10 (by rw [pI_t (P := 0 ≤ u ∧ u ≤ n - 1) (by omega)]; decide)
set_option maxHeartbeats 4000000 in
set_option maxRecDepth 100000 in
theorem m_X2_addPagesH (l : Launch) (E : EN) {am : Int → Nat} (hj : INM am) (th pg n : Int) (on se : Int → Int) (al : Int → Nat) (sp : Int → SpT) (u fr to : Int) (hh : 0 ≤ u ∧ u < n) (hn : 0 ≤ n ∧ n ≤ 24) (hf : 1 ≤ fr ∧ fr ≤ to ∧ to ≤ pg) (hse : se u = -1) (hc : 8 < (spS (fun q => cov (sp u) q ∨ (fr ≤ q ∧ q ≤ to)) 0 pg.toNat).1) (hpg : 1 ≤ pg ∧ pg ≤ 300) (hrl : RPS on sp n) (hsp : SPV sp n pg) (hon : ∀ k, on k = 0 ∨ on k = 1) : Met l yX2_addPages wsX2_addPages ({ frames := 2, cells := 0, slots := 0, locals := 50 }) (CI E [.ref (am 0), .int (iI u), .int (iI fr), .int (iI to)] (MW E am th pg n on se al)) (QW (some (.int (iI 0))) (MW E am 3 pg n on se al) (AM am)) 0 0 (AM am) := by
  refine g_met (cc := cX2_addPages) (maxL := 4) (ret := (some .int)) (lv := [(0, .ref (am 0)), (1, .int (iI u)), (2, .int (iI fr)), (3, .int (iI to))]) (by decide) rfl (Nat.le_of_ble_eq_true rfl) rfl ?_
  intro xp xe xs xm xa xb xh xc S xK xr xlk xin
  have kf24 := S.2.2.2.2 (.fieldLink RX2 24 "BookIndexModel" "thrown" "I") (by decide +kernel)
  have kf17 := S.2.2.2.2 (.fieldLink RX2 17 "BookIndexModel" "see" "[I") (by decide +kernel)
  have hin2 : ∀ w ∈ wsX20, w ∈ wsX2_addPages := by decide +kernel
  refine g_aload_n S dX2_addPages_0 rfl 0 rfl ?_
  refine g_iconst S dX2_addPages_1 ?_
  refine g_put S xK (Wp' := MW E am 0 pg n on se al) (ref := "BookIndexModel") (ty := .int) hin2 tyX2 tyX2_ok nmX2 0 (by decide) (show vwCl[2]? = some (RX2, TX2, 6) from rfl) kf24 (fun _ h9 => h9) rfl (by decide +kernel) rfl rfl (fun _ h => mw_x h) (Nat.le_of_ble_eq_true rfl) (am_in (by omega)) (fun _ _ h hv _ oq => mw_sX hj h hv oq) dX2_addPages_2 ?_
  refine g_aload_n S dX2_addPages_5 rfl 0 rfl ?_
  refine g_iload_n S dX2_addPages_6 rfl 1 rfl ?_
  refine g_callV S xK (As := [.int (iI u)]) (st := []) (stk' := [.int (iI (pI (0 ≤ u ∧ u ≤ n - 1)))]) (Wp' := MW E am 0 pg n on se al) (r := (RX2, TX2, 6)) (m_X2_isHeading l E hj 0 pg n on se al u (by omega) hn) (cwV 1 S.2.2.2.2 gX2_addPages_X2_isHeading rfl rfl rfl (by decide +kernel) ⟨Nat.le_of_ble_eq_true rfl, Nat.le_of_ble_eq_true rfl⟩) rfl rfl rfl rfl (Nat.le_of_ble_eq_true rfl) ⟨Nat.le_of_ble_eq_true rfl, Nat.le_of_ble_eq_true rfl⟩ (fun _ q => q.elim) (fun _ h => mw_x h) (fun _ h => h) (fun _ _ _ h _ _ => h) dX2_addPages_7 ?_
  have z10 := pI_b (0 ≤ u ∧ u ≤ n - 1)
  refine g_if_ne S (tgt := 19) dX2_addPages_10 (by decide) (by omega) (fun c10 => ?_) (fun c10 => ?_)
  · skip
    refine g_aload_n S dX2_addPages_19 rfl 0 rfl ?_
    refine g_iload_n S dX2_addPages_20 rfl 2 rfl ?_
    refine g_iload_n S dX2_addPages_21 rfl 3 rfl ?_
    refine g_callV S xK (As := [.int (iI fr), .int (iI to)]) (st := []) (stk' := [.int (iI (pI (1 ≤ fr ∧ to ≤ pg ∧ fr ≤ to)))]) (Wp' := MW E am 0 pg n on se al) (r := (RX2, TX2, 6)) (m_X2_arePages l E hj 0 pg n on se al fr to (by omega) hpg) (cwV 2 S.2.2.2.2 gX2_addPages_X2_arePages rfl rfl rfl (by decide +kernel) ⟨Nat.le_of_ble_eq_true rfl, Nat.le_of_ble_eq_true rfl⟩) rfl rfl rfl rfl (Nat.le_of_ble_eq_true rfl) ⟨Nat.le_of_ble_eq_true rfl, Nat.le_of_ble_eq_true rfl⟩ (fun _ q => q.elim) (fun _ h => mw_x h) (fun _ h => h) (fun _ _ _ h _ _ => h) dX2_addPages_22 ?_
    have z25 := pI_b (1 ≤ fr ∧ to ≤ pg ∧ fr ≤ to)
    refine g_if_ne S (tgt := 34) dX2_addPages_25 (by decide) (by omega) (fun c25 => ?_) (fun c25 => ?_)
    · skip
      refine g_aload_n S dX2_addPages_34 rfl 0 rfl ?_
      refine g_get S xK (ref := "BookIndexModel") hin2 4 (by decide) (show vwCl[2]? = some (RX2, TX2, 6) from rfl) kf17 (fun _ h9 => h9) (fun _ h => mw_x h) rfl dX2_addPages_35 ?_
      refine g_iload_n S dX2_addPages_38 rfl 1 rfl ?_
      refine g_iald S xK (n := 24) (fun _ h => mw_se h) (by omega) (by decide) dX2_addPages_39 ?_
      refine g_iconst S dX2_addPages_40 ?_
      refine g_icmp_ne S (tgt := 57) dX2_addPages_41 (by decide) (by omega) (fun c41 => ?_) (fun c41 => ?_)
      · skip
        exact absurd c41 (by omega)
      · skip
        refine g_aload_n S dX2_addPages_44 rfl 0 rfl ?_
        refine g_iload_n S dX2_addPages_45 rfl 1 rfl ?_
        refine g_iload_n S dX2_addPages_46 rfl 2 rfl ?_
        refine g_iload_n S dX2_addPages_47 rfl 3 rfl ?_
        refine g_iconst S dX2_addPages_48 ?_
        refine g_callV S xK (As := [.int (iI u), .int (iI fr), .int (iI to), .int (iI 1)]) (st := []) (stk' := [.int (iI (smI (fun k => pI ((fun x => (fr ≤ x ∧ x ≤ to ∧ (1 : Int) = 1) ∨ (¬ (fr ≤ x ∧ x ≤ to) ∧ on (302 * u + x) = 1)) (k + 1) ∧ ¬ (fun x => (fr ≤ x ∧ x ≤ to ∧ (1 : Int) = 1) ∨ (¬ (fr ≤ x ∧ x ≤ to) ∧ on (302 * u + x) = 1)) k)) pg.toNat))]) (Wp' := MW E am 0 pg n on se al) (r := (RX2, TX2, 6)) (m_X2_spansWith l E hj 0 pg n on se al u fr to 1 (by omega) (by omega) (Or.inr rfl) (by have z := hrl u (by omega) (by omega) 0 (by decide) (by decide); rcases hon (302 * u + 0) with y | y; (· exact y); (· exact absurd (z.mp y) (cov_out (hsp u (by omega) (by omega)).1 (Or.inl (by decide))))) hpg hon) (cwV 4 S.2.2.2.2 gX2_addPages_X2_spansWith rfl rfl rfl (by decide +kernel) ⟨Nat.le_of_ble_eq_true rfl, Nat.le_of_ble_eq_true rfl⟩) rfl rfl rfl rfl (Nat.le_of_ble_eq_true rfl) ⟨Nat.le_of_ble_eq_true rfl, Nat.le_of_ble_eq_true rfl⟩ (fun _ q => q.elim) (fun _ h => mw_x h) (fun _ h => h) (fun _ _ _ h _ _ => h) dX2_addPages_49 ?_
        refine g_bipush S dX2_addPages_52 (by decide) ?_
        have e54 := rl_withOn hrl (pg := pg) (by omega) (h := u) (fr := fr) (to := to) (by omega) (by omega) (cov_out (hsp u (by omega) (by omega)).1 (Or.inl (by decide)))
        have b54 := spS_b (fun q => cov (sp u) q ∨ (fr ≤ q ∧ q ≤ to)) 0 pg.toNat
        refine g_icmp_le S (tgt := 63) dX2_addPages_54 (by decide) (by omega) (fun c54 => ?_) (fun c54 => ?_)
        · skip
          exact absurd c54 (by omega)
        · skip
          refine g_aload_n S dX2_addPages_57 rfl 0 rfl ?_
          refine g_iconst S dX2_addPages_58 ?_
          refine g_callV S xK (As := [.int (iI 3)]) (st := []) (stk' := [.int (iI 0)]) (Wp' := MW E am 3 pg n on se al) (r := (RX2, TX2, 6)) (m_X2_no l E hj 0 pg n on se al 3 ) (cwV 1 S.2.2.2.2 gX2_addPages_X2_no rfl rfl rfl (by decide +kernel) ⟨Nat.le_of_ble_eq_true rfl, Nat.le_of_ble_eq_true rfl⟩) rfl rfl rfl rfl (Nat.le_of_ble_eq_true rfl) ⟨Nat.le_of_ble_eq_true rfl, Nat.le_of_ble_eq_true rfl⟩ (fun _ q => q) (fun _ h => mw_x h) (fun _ h => h) (fun _ _ _ h _ _ => h) dX2_addPages_59 ?_
          exact g_iret S xr xlk dX2_addPages_62 (fun _ h => h)
    · skip
      exact absurd c25 (by rw [pI_t (P := 1 ≤ fr ∧ to ≤ pg ∧ fr ≤ to) (by omega)]; decide)
  · skip
    exact absurd c10 (by rw [pI_t (P := 0 ≤ u ∧ u ≤ n - 1) (by omega)]; decide)
set_option maxHeartbeats 4000000 in
set_option maxRecDepth 100000 in
theorem m_X2_takePages (l : Launch) (E : EN) {am : Int → Nat} (hj : INM am) (th pg n : Int) (on se : Int → Int) (al : Int → Nat) (sp : Int → SpT) (u fr to : Int) (hh : 0 ≤ u ∧ u < n) (hn : 0 ≤ n ∧ n ≤ 24) (hf : 1 ≤ fr ∧ fr ≤ to ∧ to ≤ pg) (hc : (spS (fun q => cov (sp u) q ∧ ¬ (fr ≤ q ∧ q ≤ to)) 0 pg.toNat).1 ≤ 8) (hpg : 1 ≤ pg ∧ pg ≤ 300) (hrl : RPS on sp n) (hsp : SPV sp n pg) (hon : ∀ k, on k = 0 ∨ on k = 1) : Met l yX2_takePages wsX2_takePages ({ frames := 2, cells := 0, slots := 0, locals := 50 }) (CI E [.ref (am 0), .int (iI u), .int (iI fr), .int (iI to)] (MW E am th pg n on se al)) (QW (some (.int (iI (smI (fun k => pI (cov (sp u) (k + 1))) pg.toNat - smI (fun k => pI ((fun q => cov (sp u) q ∧ ¬ (fr ≤ q ∧ q ≤ to)) (k + 1))) pg.toNat)))) (MW E am 0 pg n (ptO on (302 * u + fr) (302 * u + to) 0) se al) (AM am)) 0 0 (AM am) := by
  refine g_met (cc := cX2_takePages) (maxL := 5) (ret := (some .int)) (lv := [(0, .ref (am 0)), (1, .int (iI u)), (2, .int (iI fr)), (3, .int (iI to))]) (by decide) rfl (Nat.le_of_ble_eq_true rfl) rfl ?_
  intro xp xe xs xm xa xb xh xc S xK xr xlk xin
  have kf24 := S.2.2.2.2 (.fieldLink RX2 24 "BookIndexModel" "thrown" "I") (by decide +kernel)
  have hin2 : ∀ w ∈ wsX20, w ∈ wsX2_takePages := by decide +kernel
  refine g_aload_n S dX2_takePages_0 rfl 0 rfl ?_
  refine g_iconst S dX2_takePages_1 ?_
  refine g_put S xK (Wp' := MW E am 0 pg n on se al) (ref := "BookIndexModel") (ty := .int) hin2 tyX2 tyX2_ok nmX2 0 (by decide) (show vwCl[2]? = some (RX2, TX2, 6) from rfl) kf24 (fun _ h9 => h9) rfl (by decide +kernel) rfl rfl (fun _ h => mw_x h) (Nat.le_of_ble_eq_true rfl) (am_in (by omega)) (fun _ _ h hv _ oq => mw_sX hj h hv oq) dX2_takePages_2 ?_
  refine g_aload_n S dX2_takePages_5 rfl 0 rfl ?_
  refine g_iload_n S dX2_takePages_6 rfl 1 rfl ?_
  refine g_callV S xK (As := [.int (iI u)]) (st := []) (stk' := [.int (iI (pI (0 ≤ u ∧ u ≤ n - 1)))]) (Wp' := MW E am 0 pg n on se al) (r := (RX2, TX2, 6)) (m_X2_isHeading l E hj 0 pg n on se al u (by omega) hn) (cwV 1 S.2.2.2.2 gX2_takePages_X2_isHeading rfl rfl rfl (by decide +kernel) ⟨Nat.le_of_ble_eq_true rfl, Nat.le_of_ble_eq_true rfl⟩) rfl rfl rfl rfl (Nat.le_of_ble_eq_true rfl) ⟨Nat.le_of_ble_eq_true rfl, Nat.le_of_ble_eq_true rfl⟩ (fun _ q => q.elim) (fun _ h => mw_x h) (fun _ h => h) (fun _ _ _ h _ _ => h) dX2_takePages_7 ?_
  have z10 := pI_b (0 ≤ u ∧ u ≤ n - 1)
  refine g_if_ne S (tgt := 19) dX2_takePages_10 (by decide) (by omega) (fun c10 => ?_) (fun c10 => ?_)
  · skip
    refine g_aload_n S dX2_takePages_19 rfl 0 rfl ?_
    refine g_iload_n S dX2_takePages_20 rfl 2 rfl ?_
    refine g_iload_n S dX2_takePages_21 rfl 3 rfl ?_
    refine g_callV S xK (As := [.int (iI fr), .int (iI to)]) (st := []) (stk' := [.int (iI (pI (1 ≤ fr ∧ to ≤ pg ∧ fr ≤ to)))]) (Wp' := MW E am 0 pg n on se al) (r := (RX2, TX2, 6)) (m_X2_arePages l E hj 0 pg n on se al fr to (by omega) hpg) (cwV 2 S.2.2.2.2 gX2_takePages_X2_arePages rfl rfl rfl (by decide +kernel) ⟨Nat.le_of_ble_eq_true rfl, Nat.le_of_ble_eq_true rfl⟩) rfl rfl rfl rfl (Nat.le_of_ble_eq_true rfl) ⟨Nat.le_of_ble_eq_true rfl, Nat.le_of_ble_eq_true rfl⟩ (fun _ q => q.elim) (fun _ h => mw_x h) (fun _ h => h) (fun _ _ _ h _ _ => h) dX2_takePages_22 ?_
    have z25 := pI_b (1 ≤ fr ∧ to ≤ pg ∧ fr ≤ to)
    refine g_if_ne S (tgt := 34) dX2_takePages_25 (by decide) (by omega) (fun c25 => ?_) (fun c25 => ?_)
    · skip
      refine g_aload_n S dX2_takePages_34 rfl 0 rfl ?_
      refine g_iload_n S dX2_takePages_35 rfl 1 rfl ?_
      refine g_iload_n S dX2_takePages_36 rfl 2 rfl ?_
      refine g_iload_n S dX2_takePages_37 rfl 3 rfl ?_
      refine g_iconst S dX2_takePages_38 ?_
      refine g_callV S xK (As := [.int (iI u), .int (iI fr), .int (iI to), .int (iI 0)]) (st := []) (stk' := [.int (iI (smI (fun k => pI ((fun x => (fr ≤ x ∧ x ≤ to ∧ (0 : Int) = 1) ∨ (¬ (fr ≤ x ∧ x ≤ to) ∧ on (302 * u + x) = 1)) (k + 1) ∧ ¬ (fun x => (fr ≤ x ∧ x ≤ to ∧ (0 : Int) = 1) ∨ (¬ (fr ≤ x ∧ x ≤ to) ∧ on (302 * u + x) = 1)) k)) pg.toNat))]) (Wp' := MW E am 0 pg n on se al) (r := (RX2, TX2, 6)) (m_X2_spansWith l E hj 0 pg n on se al u fr to 0 (by omega) (by omega) (Or.inl rfl) (by have z := hrl u (by omega) (by omega) 0 (by decide) (by decide); rcases hon (302 * u + 0) with y | y; (· exact y); (· exact absurd (z.mp y) (cov_out (hsp u (by omega) (by omega)).1 (Or.inl (by decide))))) hpg hon) (cwV 4 S.2.2.2.2 gX2_takePages_X2_spansWith rfl rfl rfl (by decide +kernel) ⟨Nat.le_of_ble_eq_true rfl, Nat.le_of_ble_eq_true rfl⟩) rfl rfl rfl rfl (Nat.le_of_ble_eq_true rfl) ⟨Nat.le_of_ble_eq_true rfl, Nat.le_of_ble_eq_true rfl⟩ (fun _ q => q.elim) (fun _ h => mw_x h) (fun _ h => h) (fun _ _ _ h _ _ => h) dX2_takePages_39 ?_
      refine g_bipush S dX2_takePages_42 (by decide) ?_
      have e54 := rl_withOff hrl (pg := pg) (by omega) (h := u) (fr := fr) (to := to) (by omega) (cov_out (hsp u (by omega) (by omega)).1 (Or.inl (by decide)))
      have b54 := spS_b (fun q => cov (sp u) q ∧ ¬ (fr ≤ q ∧ q ≤ to)) 0 pg.toNat
      refine g_icmp_le S (tgt := 53) dX2_takePages_44 (by decide) (by omega) (fun c44 => ?_) (fun c44 => ?_)
      · skip
        refine g_aload_n S dX2_takePages_53 rfl 0 rfl ?_
        refine g_iload_n S dX2_takePages_54 rfl 1 rfl ?_
        refine g_callV S xK (As := [.int (iI u)]) (st := []) (stk' := [.int (iI (smI (fun k => on (302 * u + (k + 1))) pg.toNat))]) (Wp' := MW E am 0 pg n on se al) (r := (RX2, TX2, 6)) (m_X2_many l E hj 0 pg n on se al u (by omega) hpg hon) (cwV 1 S.2.2.2.2 gX2_takePages_X2_many rfl rfl rfl (by decide +kernel) ⟨Nat.le_of_ble_eq_true rfl, Nat.le_of_ble_eq_true rfl⟩) rfl rfl rfl rfl (Nat.le_of_ble_eq_true rfl) ⟨Nat.le_of_ble_eq_true rfl, Nat.le_of_ble_eq_true rfl⟩ (fun _ q => q.elim) (fun _ h => mw_x h) (fun _ h => h) (fun _ _ _ h _ _ => h) dX2_takePages_55 ?_
        refine g_istore S (lv' := [(4, .int (iI (smI (fun k => on (302 * u + (k + 1))) pg.toNat))), (0, .ref (am 0)), (1, .int (iI u)), (2, .int (iI fr)), (3, .int (iI to))]) dX2_takePages_58 (Nat.le_of_ble_eq_true rfl) rfl ?_
        have rw9 := fun (q : Int) (q0 : 0 ≤ q) (q1 : q ≤ 301) => pt_row hrl (u := u) (a := fr) (b := to) (v := 0) (by omega) (by omega) (q := q) ⟨q0, q1⟩
        have on9 := ptO_01 hon (a := 302 * u + fr) (b := 302 * u + to) (v := 0) (Or.inl rfl)
        refine g_aload_n S dX2_takePages_60 rfl 1 rfl ?_
        refine g_iload_n S dX2_takePages_61 rfl 2 rfl ?_
        refine g_iload_n S dX2_takePages_62 rfl 3 rfl ?_
        refine g_iload_n S dX2_takePages_63 rfl 4 rfl ?_
        refine g_iconst S dX2_takePages_64 ?_
        refine g_callV S xK (As := [.int (iI u), .int (iI fr), .int (iI to), .int (iI 0)]) (st := []) (stk' := []) (Wp' := MW E am 0 pg n (ptO on (302 * u + fr) (302 * u + to) 0) se al) (r := (RX2, TX2, 6)) (m_X2_put l E hj 0 pg n on se al u fr to 0 (by omega) (by omega) (by omega)) (cwV 4 S.2.2.2.2 gX2_takePages_X2_put rfl rfl rfl (by decide +kernel) ⟨Nat.le_of_ble_eq_true rfl, Nat.le_of_ble_eq_true rfl⟩) rfl rfl rfl rfl (Nat.le_of_ble_eq_true rfl) ⟨Nat.le_of_ble_eq_true rfl, Nat.le_of_ble_eq_true rfl⟩ (fun _ q => q) (fun _ h => mw_x h) (fun _ h => h) (fun _ _ _ h _ _ => h) dX2_takePages_65 ?_
        refine g_iload S dX2_takePages_68 0 rfl ?_
        refine g_aload_n S dX2_takePages_70 rfl 1 rfl ?_
        refine g_iload_n S dX2_takePages_71 rfl 2 rfl ?_
        refine g_callV S xK (As := [.int (iI u)]) (st := [.int (iI (smI (fun k => on (302 * u + (k + 1))) pg.toNat))]) (stk' := [.int (iI (smI (fun k => (ptO on (302 * u + fr) (302 * u + to) 0) (302 * u + (k + 1))) pg.toNat)), .int (iI (smI (fun k => on (302 * u + (k + 1))) pg.toNat))]) (Wp' := MW E am 0 pg n (ptO on (302 * u + fr) (302 * u + to) 0) se al) (r := (RX2, TX2, 6)) (m_X2_many l E hj 0 pg n (ptO on (302 * u + fr) (302 * u + to) 0) se al u (by omega) hpg on9) (cwV 1 S.2.2.2.2 gX2_takePages_X2_many rfl rfl rfl (by decide +kernel) ⟨Nat.le_of_ble_eq_true rfl, Nat.le_of_ble_eq_true rfl⟩) rfl rfl rfl rfl (Nat.le_of_ble_eq_true rfl) ⟨Nat.le_of_ble_eq_true rfl, Nat.le_of_ble_eq_true rfl⟩ (fun _ q => q.elim) (fun _ h => mw_x h) (fun _ h => h) (fun _ _ _ h _ _ => h) dX2_takePages_72 ?_
        refine g_isub S dX2_takePages_75 ?_
        rw [show (smI (fun k => pI (cov (sp u) (k + 1))) pg.toNat - smI (fun k => pI ((fun q => cov (sp u) q ∧ ¬ (fr ≤ q ∧ q ≤ to)) (k + 1))) pg.toNat) = (smI (fun k => on (302 * u + (k + 1))) pg.toNat - smI (fun k => (ptO on (302 * u + fr) (302 * u + to) 0) (302 * u + (k + 1))) pg.toNat) from by rw [smI_c (n := pg.toNat) (fun k k0 k1 => rl_pI hrl hon (h := u) (q := k + 1) (by omega) (by omega))]; exact congrArg (_ - ·) (smI_c (fun k k0 k1 => by have y := rw9 (k + 1) (by omega) (by omega); show pI (cov (sp u) (k + 1) ∧ ¬ (fr ≤ k + 1 ∧ k + 1 ≤ to)) = _; by_cases z : fr ≤ k + 1 ∧ k + 1 ≤ to; (· rw [if_pos z] at y; rw [pI_f (fun x => x.2 z)]; rcases on9 (302 * u + (k + 1)) with x | x; (· exact x.symm); (· exact absurd (y.mp x) (by decide))); (· rw [if_neg z] at y; by_cases x : cov (sp u) (k + 1); (· rw [pI_t ⟨x, z⟩]; exact (y.mpr x).symm); (· rw [pI_f (fun w => x w.1)]; rcases on9 (302 * u + (k + 1)) with w | w; (· exact w.symm); (· exact absurd (y.mp w) x)))))]
        exact g_iret S xr xlk dX2_takePages_76 (fun _ h => h)
      · skip
        exact absurd c44 (by omega)
    · skip
      exact absurd c25 (by rw [pI_t (P := 1 ≤ fr ∧ to ≤ pg ∧ fr ≤ to) (by omega)]; decide)
  · skip
    exact absurd c10 (by rw [pI_t (P := 0 ≤ u ∧ u ≤ n - 1) (by omega)]; decide)
set_option maxHeartbeats 4000000 in
set_option maxRecDepth 100000 in
theorem m_X2_takePagesH (l : Launch) (E : EN) {am : Int → Nat} (hj : INM am) (th pg n : Int) (on se : Int → Int) (al : Int → Nat) (sp : Int → SpT) (u fr to : Int) (hh : 0 ≤ u ∧ u < n) (hn : 0 ≤ n ∧ n ≤ 24) (hf : 1 ≤ fr ∧ fr ≤ to ∧ to ≤ pg) (hc : 8 < (spS (fun q => cov (sp u) q ∧ ¬ (fr ≤ q ∧ q ≤ to)) 0 pg.toNat).1) (hpg : 1 ≤ pg ∧ pg ≤ 300) (hrl : RPS on sp n) (hsp : SPV sp n pg) (hon : ∀ k, on k = 0 ∨ on k = 1) : Met l yX2_takePages wsX2_takePages ({ frames := 2, cells := 0, slots := 0, locals := 50 }) (CI E [.ref (am 0), .int (iI u), .int (iI fr), .int (iI to)] (MW E am th pg n on se al)) (QW (some (.int (iI 0))) (MW E am 3 pg n on se al) (AM am)) 0 0 (AM am) := by
  refine g_met (cc := cX2_takePages) (maxL := 5) (ret := (some .int)) (lv := [(0, .ref (am 0)), (1, .int (iI u)), (2, .int (iI fr)), (3, .int (iI to))]) (by decide) rfl (Nat.le_of_ble_eq_true rfl) rfl ?_
  intro xp xe xs xm xa xb xh xc S xK xr xlk xin
  have kf24 := S.2.2.2.2 (.fieldLink RX2 24 "BookIndexModel" "thrown" "I") (by decide +kernel)
  have hin2 : ∀ w ∈ wsX20, w ∈ wsX2_takePages := by decide +kernel
  refine g_aload_n S dX2_takePages_0 rfl 0 rfl ?_
  refine g_iconst S dX2_takePages_1 ?_
  refine g_put S xK (Wp' := MW E am 0 pg n on se al) (ref := "BookIndexModel") (ty := .int) hin2 tyX2 tyX2_ok nmX2 0 (by decide) (show vwCl[2]? = some (RX2, TX2, 6) from rfl) kf24 (fun _ h9 => h9) rfl (by decide +kernel) rfl rfl (fun _ h => mw_x h) (Nat.le_of_ble_eq_true rfl) (am_in (by omega)) (fun _ _ h hv _ oq => mw_sX hj h hv oq) dX2_takePages_2 ?_
  refine g_aload_n S dX2_takePages_5 rfl 0 rfl ?_
  refine g_iload_n S dX2_takePages_6 rfl 1 rfl ?_
  refine g_callV S xK (As := [.int (iI u)]) (st := []) (stk' := [.int (iI (pI (0 ≤ u ∧ u ≤ n - 1)))]) (Wp' := MW E am 0 pg n on se al) (r := (RX2, TX2, 6)) (m_X2_isHeading l E hj 0 pg n on se al u (by omega) hn) (cwV 1 S.2.2.2.2 gX2_takePages_X2_isHeading rfl rfl rfl (by decide +kernel) ⟨Nat.le_of_ble_eq_true rfl, Nat.le_of_ble_eq_true rfl⟩) rfl rfl rfl rfl (Nat.le_of_ble_eq_true rfl) ⟨Nat.le_of_ble_eq_true rfl, Nat.le_of_ble_eq_true rfl⟩ (fun _ q => q.elim) (fun _ h => mw_x h) (fun _ h => h) (fun _ _ _ h _ _ => h) dX2_takePages_7 ?_
  have z10 := pI_b (0 ≤ u ∧ u ≤ n - 1)
  refine g_if_ne S (tgt := 19) dX2_takePages_10 (by decide) (by omega) (fun c10 => ?_) (fun c10 => ?_)
  · skip
    refine g_aload_n S dX2_takePages_19 rfl 0 rfl ?_
    refine g_iload_n S dX2_takePages_20 rfl 2 rfl ?_
    refine g_iload_n S dX2_takePages_21 rfl 3 rfl ?_
    refine g_callV S xK (As := [.int (iI fr), .int (iI to)]) (st := []) (stk' := [.int (iI (pI (1 ≤ fr ∧ to ≤ pg ∧ fr ≤ to)))]) (Wp' := MW E am 0 pg n on se al) (r := (RX2, TX2, 6)) (m_X2_arePages l E hj 0 pg n on se al fr to (by omega) hpg) (cwV 2 S.2.2.2.2 gX2_takePages_X2_arePages rfl rfl rfl (by decide +kernel) ⟨Nat.le_of_ble_eq_true rfl, Nat.le_of_ble_eq_true rfl⟩) rfl rfl rfl rfl (Nat.le_of_ble_eq_true rfl) ⟨Nat.le_of_ble_eq_true rfl, Nat.le_of_ble_eq_true rfl⟩ (fun _ q => q.elim) (fun _ h => mw_x h) (fun _ h => h) (fun _ _ _ h _ _ => h) dX2_takePages_22 ?_
    have z25 := pI_b (1 ≤ fr ∧ to ≤ pg ∧ fr ≤ to)
    refine g_if_ne S (tgt := 34) dX2_takePages_25 (by decide) (by omega) (fun c25 => ?_) (fun c25 => ?_)
    · skip
      refine g_aload_n S dX2_takePages_34 rfl 0 rfl ?_
      refine g_iload_n S dX2_takePages_35 rfl 1 rfl ?_
      refine g_iload_n S dX2_takePages_36 rfl 2 rfl ?_
      refine g_iload_n S dX2_takePages_37 rfl 3 rfl ?_
      refine g_iconst S dX2_takePages_38 ?_
      refine g_callV S xK (As := [.int (iI u), .int (iI fr), .int (iI to), .int (iI 0)]) (st := []) (stk' := [.int (iI (smI (fun k => pI ((fun x => (fr ≤ x ∧ x ≤ to ∧ (0 : Int) = 1) ∨ (¬ (fr ≤ x ∧ x ≤ to) ∧ on (302 * u + x) = 1)) (k + 1) ∧ ¬ (fun x => (fr ≤ x ∧ x ≤ to ∧ (0 : Int) = 1) ∨ (¬ (fr ≤ x ∧ x ≤ to) ∧ on (302 * u + x) = 1)) k)) pg.toNat))]) (Wp' := MW E am 0 pg n on se al) (r := (RX2, TX2, 6)) (m_X2_spansWith l E hj 0 pg n on se al u fr to 0 (by omega) (by omega) (Or.inl rfl) (by have z := hrl u (by omega) (by omega) 0 (by decide) (by decide); rcases hon (302 * u + 0) with y | y; (· exact y); (· exact absurd (z.mp y) (cov_out (hsp u (by omega) (by omega)).1 (Or.inl (by decide))))) hpg hon) (cwV 4 S.2.2.2.2 gX2_takePages_X2_spansWith rfl rfl rfl (by decide +kernel) ⟨Nat.le_of_ble_eq_true rfl, Nat.le_of_ble_eq_true rfl⟩) rfl rfl rfl rfl (Nat.le_of_ble_eq_true rfl) ⟨Nat.le_of_ble_eq_true rfl, Nat.le_of_ble_eq_true rfl⟩ (fun _ q => q.elim) (fun _ h => mw_x h) (fun _ h => h) (fun _ _ _ h _ _ => h) dX2_takePages_39 ?_
      refine g_bipush S dX2_takePages_42 (by decide) ?_
      have e54 := rl_withOff hrl (pg := pg) (by omega) (h := u) (fr := fr) (to := to) (by omega) (cov_out (hsp u (by omega) (by omega)).1 (Or.inl (by decide)))
      have b54 := spS_b (fun q => cov (sp u) q ∧ ¬ (fr ≤ q ∧ q ≤ to)) 0 pg.toNat
      refine g_icmp_le S (tgt := 53) dX2_takePages_44 (by decide) (by omega) (fun c44 => ?_) (fun c44 => ?_)
      · skip
        exact absurd c44 (by omega)
      · skip
        refine g_aload_n S dX2_takePages_47 rfl 0 rfl ?_
        refine g_iconst S dX2_takePages_48 ?_
        refine g_callV S xK (As := [.int (iI 3)]) (st := []) (stk' := [.int (iI 0)]) (Wp' := MW E am 3 pg n on se al) (r := (RX2, TX2, 6)) (m_X2_no l E hj 0 pg n on se al 3 ) (cwV 1 S.2.2.2.2 gX2_takePages_X2_no rfl rfl rfl (by decide +kernel) ⟨Nat.le_of_ble_eq_true rfl, Nat.le_of_ble_eq_true rfl⟩) rfl rfl rfl rfl (Nat.le_of_ble_eq_true rfl) ⟨Nat.le_of_ble_eq_true rfl, Nat.le_of_ble_eq_true rfl⟩ (fun _ q => q) (fun _ h => mw_x h) (fun _ h => h) (fun _ _ _ h _ _ => h) dX2_takePages_49 ?_
        exact g_iret S xr xlk dX2_takePages_52 (fun _ h => h)
    · skip
      exact absurd c25 (by rw [pI_t (P := 1 ≤ fr ∧ to ≤ pg ∧ fr ≤ to) (by omega)]; decide)
  · skip
    exact absurd c10 (by rw [pI_t (P := 0 ≤ u ∧ u ≤ n - 1) (by omega)]; decide)
set_option maxHeartbeats 4000000 in
set_option maxRecDepth 100000 in
theorem m_X2_setSee (l : Launch) (E : EN) {am : Int → Nat} (hj : INM am) (th pg n : Int) (on se : Int → Int) (al : Int → Nat) (sp : Int → SpT) (u o : Int) (hh : 0 ≤ u ∧ u < n) (hn : 0 ≤ n ∧ n ≤ 24) (ho : o = -1 ∨ (0 ≤ o ∧ o < n ∧ o ≠ u ∧ (sp u).1 = 0)) (hpg : 1 ≤ pg ∧ pg ≤ 300) (hrl : RPS on sp n) (hsp : SPV sp n pg) (hon : ∀ k, on k = 0 ∨ on k = 1) : Met l yX2_setSee wsX2_setSee ({ frames := 2, cells := 0, slots := 0, locals := 45 }) (CI E [.ref (am 0), .int (iI u), .int (iI o)] (MW E am th pg n on se al)) (QW (some (.int (iI (se u)))) (MW E am 0 pg n on (upI se u o) al) (AM am)) 0 0 (AM am) := by
  refine g_met (cc := cX2_setSee) (maxL := 4) (ret := (some .int)) (lv := [(0, .ref (am 0)), (1, .int (iI u)), (2, .int (iI o))]) (by decide) rfl (Nat.le_of_ble_eq_true rfl) rfl ?_
  intro xp xe xs xm xa xb xh xc S xK xr xlk xin
  have kf24 := S.2.2.2.2 (.fieldLink RX2 24 "BookIndexModel" "thrown" "I") (by decide +kernel)
  have kf17 := S.2.2.2.2 (.fieldLink RX2 17 "BookIndexModel" "see" "[I") (by decide +kernel)
  have hin2 : ∀ w ∈ wsX20, w ∈ wsX2_setSee := by decide +kernel
  refine g_aload_n S dX2_setSee_0 rfl 0 rfl ?_
  refine g_iconst S dX2_setSee_1 ?_
  refine g_put S xK (Wp' := MW E am 0 pg n on se al) (ref := "BookIndexModel") (ty := .int) hin2 tyX2 tyX2_ok nmX2 0 (by decide) (show vwCl[2]? = some (RX2, TX2, 6) from rfl) kf24 (fun _ h9 => h9) rfl (by decide +kernel) rfl rfl (fun _ h => mw_x h) (Nat.le_of_ble_eq_true rfl) (am_in (by omega)) (fun _ _ h hv _ oq => mw_sX hj h hv oq) dX2_setSee_2 ?_
  refine g_aload_n S dX2_setSee_5 rfl 0 rfl ?_
  refine g_iload_n S dX2_setSee_6 rfl 1 rfl ?_
  refine g_callV S xK (As := [.int (iI u)]) (st := []) (stk' := [.int (iI (pI (0 ≤ u ∧ u ≤ n - 1)))]) (Wp' := MW E am 0 pg n on se al) (r := (RX2, TX2, 6)) (m_X2_isHeading l E hj 0 pg n on se al u (by omega) hn) (cwV 1 S.2.2.2.2 gX2_setSee_X2_isHeading rfl rfl rfl (by decide +kernel) ⟨Nat.le_of_ble_eq_true rfl, Nat.le_of_ble_eq_true rfl⟩) rfl rfl rfl rfl (Nat.le_of_ble_eq_true rfl) ⟨Nat.le_of_ble_eq_true rfl, Nat.le_of_ble_eq_true rfl⟩ (fun _ q => q.elim) (fun _ h => mw_x h) (fun _ h => h) (fun _ _ _ h _ _ => h) dX2_setSee_7 ?_
  have z10 := pI_b (0 ≤ u ∧ u ≤ n - 1)
  refine g_if_eq S (tgt := 26) dX2_setSee_10 (by decide) (by omega) (fun c10 => ?_) (fun c10 => ?_)
  · skip
    exact absurd c10 (by rw [pI_t (P := 0 ≤ u ∧ u ≤ n - 1) (by omega)]; decide)
  · skip
    refine g_iload_n S dX2_setSee_13 rfl 2 rfl ?_
    refine g_iconst S dX2_setSee_14 ?_
    refine g_icmp_eq S (tgt := 32) dX2_setSee_15 (by decide) (by omega) (fun c15 => ?_) (fun c15 => ?_)
    · skip
      refine g_iload_n S dX2_setSee_32 rfl 1 rfl ?_
      refine g_iload_n S dX2_setSee_33 rfl 2 rfl ?_
      refine g_icmp_ne S (tgt := 43) dX2_setSee_34 (by decide) (by omega) (fun c34 => ?_) (fun c34 => ?_)
      · skip
        refine g_iload_n S dX2_setSee_43 rfl 2 rfl ?_
        refine g_iconst S dX2_setSee_44 ?_
        refine g_icmp_eq S (tgt := 62) dX2_setSee_45 (by decide) (by omega) (fun c45 => ?_) (fun c45 => ?_)
        · skip
          refine g_aload_n S dX2_setSee_62 rfl 0 rfl ?_
          refine g_get S xK (ref := "BookIndexModel") hin2 4 (by decide) (show vwCl[2]? = some (RX2, TX2, 6) from rfl) kf17 (fun _ h9 => h9) (fun _ h => mw_x h) rfl dX2_setSee_63 ?_
          refine g_iload_n S dX2_setSee_66 rfl 1 rfl ?_
          refine g_iald S xK (n := 24) (fun _ h => mw_se h) (by omega) (by decide) dX2_setSee_67 ?_
          refine g_istore_n S (lv' := [(3, .int (iI (se u))), (0, .ref (am 0)), (1, .int (iI u)), (2, .int (iI o))]) dX2_setSee_68 rfl (Nat.le_of_ble_eq_true rfl) rfl ?_
          refine g_aload_n S dX2_setSee_69 rfl 1 rfl ?_
          refine g_get S xK (ref := "BookIndexModel") hin2 4 (by decide) (show vwCl[2]? = some (RX2, TX2, 6) from rfl) kf17 (fun _ h9 => h9) (fun _ h => mw_x h) rfl dX2_setSee_70 ?_
          refine g_iload_n S dX2_setSee_73 rfl 2 rfl ?_
          refine g_iload_n S dX2_setSee_74 rfl 3 rfl ?_
          refine g_iast S xK (Wp' := MW E am 0 pg n on (upI se u o) al) (n := 24) (fun _ h => mw_se h) (by omega) (by decide) (am_in (by omega)) (fun _ _ h hv _ oq => mw_sSe hj h hv oq) dX2_setSee_75 ?_
          refine g_iload_n S dX2_setSee_76 rfl 0 rfl ?_
          exact g_iret S xr xlk dX2_setSee_77 (fun _ h => h)
        · skip
          refine g_aload_n S dX2_setSee_48 rfl 0 rfl ?_
          refine g_iload_n S dX2_setSee_49 rfl 1 rfl ?_
          refine g_callV S xK (As := [.int (iI u)]) (st := []) (stk' := [.int (iI (smI (fun k => on (302 * u + (k + 1))) pg.toNat))]) (Wp' := MW E am 0 pg n on se al) (r := (RX2, TX2, 6)) (m_X2_many l E hj 0 pg n on se al u (by omega) hpg hon) (cwV 1 S.2.2.2.2 gX2_setSee_X2_many rfl rfl rfl (by decide +kernel) ⟨Nat.le_of_ble_eq_true rfl, Nat.le_of_ble_eq_true rfl⟩) rfl rfl rfl rfl (Nat.le_of_ble_eq_true rfl) ⟨Nat.le_of_ble_eq_true rfl, Nat.le_of_ble_eq_true rfl⟩ (fun _ q => q.elim) (fun _ h => mw_x h) (fun _ h => h) (fun _ _ _ h _ _ => h) dX2_setSee_50 ?_
          have e53 := rl_many hrl hsp hon (a := u) (by omega) (by omega)
          have f53 := pgs_0 (hsp u (by omega) (by omega)).1
          have g53 := pgs_ge (hsp u (by omega) (by omega)).1
          have h53 := (hsp u (by omega) (by omega)).1.1
          have s53 := smI_01 (z := pg) (f := fun k => on (302 * u + (k + 1))) (by omega) (fun k _ _ => by have z := hon (302 * u + (k + 1)); omega)
          have j53 : (sp u).1 = 0 → smI (fun k => on (302 * u + (k + 1))) pg.toNat = 0 := fun z => e53.trans (f53.mpr z)
          refine g_if_le S (tgt := 62) dX2_setSee_53 (by decide) (by omega) (fun c53 => ?_) (fun c53 => ?_)
          · skip
            refine g_aload_n S dX2_setSee_62 rfl 0 rfl ?_
            refine g_get S xK (ref := "BookIndexModel") hin2 4 (by decide) (show vwCl[2]? = some (RX2, TX2, 6) from rfl) kf17 (fun _ h9 => h9) (fun _ h => mw_x h) rfl dX2_setSee_63 ?_
            refine g_iload_n S dX2_setSee_66 rfl 1 rfl ?_
            refine g_iald S xK (n := 24) (fun _ h => mw_se h) (by omega) (by decide) dX2_setSee_67 ?_
            refine g_istore_n S (lv' := [(3, .int (iI (se u))), (0, .ref (am 0)), (1, .int (iI u)), (2, .int (iI o))]) dX2_setSee_68 rfl (Nat.le_of_ble_eq_true rfl) rfl ?_
            refine g_aload_n S dX2_setSee_69 rfl 1 rfl ?_
            refine g_get S xK (ref := "BookIndexModel") hin2 4 (by decide) (show vwCl[2]? = some (RX2, TX2, 6) from rfl) kf17 (fun _ h9 => h9) (fun _ h => mw_x h) rfl dX2_setSee_70 ?_
            refine g_iload_n S dX2_setSee_73 rfl 2 rfl ?_
            refine g_iload_n S dX2_setSee_74 rfl 3 rfl ?_
            refine g_iast S xK (Wp' := MW E am 0 pg n on (upI se u o) al) (n := 24) (fun _ h => mw_se h) (by omega) (by decide) (am_in (by omega)) (fun _ _ h hv _ oq => mw_sSe hj h hv oq) dX2_setSee_75 ?_
            refine g_iload_n S dX2_setSee_76 rfl 0 rfl ?_
            exact g_iret S xr xlk dX2_setSee_77 (fun _ h => h)
          · skip
            exact absurd c53 (by omega)
      · skip
        exact absurd c34 (by omega)
    · skip
      refine g_aload_n S dX2_setSee_18 rfl 0 rfl ?_
      refine g_iload_n S dX2_setSee_19 rfl 2 rfl ?_
      refine g_callV S xK (As := [.int (iI o)]) (st := []) (stk' := [.int (iI (pI (0 ≤ o ∧ o ≤ n - 1)))]) (Wp' := MW E am 0 pg n on se al) (r := (RX2, TX2, 6)) (m_X2_isHeading l E hj 0 pg n on se al o (by omega) hn) (cwV 1 S.2.2.2.2 gX2_setSee_X2_isHeading rfl rfl rfl (by decide +kernel) ⟨Nat.le_of_ble_eq_true rfl, Nat.le_of_ble_eq_true rfl⟩) rfl rfl rfl rfl (Nat.le_of_ble_eq_true rfl) ⟨Nat.le_of_ble_eq_true rfl, Nat.le_of_ble_eq_true rfl⟩ (fun _ q => q.elim) (fun _ h => mw_x h) (fun _ h => h) (fun _ _ _ h _ _ => h) dX2_setSee_20 ?_
      have z23 := pI_b (0 ≤ o ∧ o ≤ n - 1)
      refine g_if_ne S (tgt := 32) dX2_setSee_23 (by decide) (by omega) (fun c23 => ?_) (fun c23 => ?_)
      · skip
        refine g_iload_n S dX2_setSee_32 rfl 1 rfl ?_
        refine g_iload_n S dX2_setSee_33 rfl 2 rfl ?_
        refine g_icmp_ne S (tgt := 43) dX2_setSee_34 (by decide) (by omega) (fun c34 => ?_) (fun c34 => ?_)
        · skip
          refine g_iload_n S dX2_setSee_43 rfl 2 rfl ?_
          refine g_iconst S dX2_setSee_44 ?_
          refine g_icmp_eq S (tgt := 62) dX2_setSee_45 (by decide) (by omega) (fun c45 => ?_) (fun c45 => ?_)
          · skip
            refine g_aload_n S dX2_setSee_62 rfl 0 rfl ?_
            refine g_get S xK (ref := "BookIndexModel") hin2 4 (by decide) (show vwCl[2]? = some (RX2, TX2, 6) from rfl) kf17 (fun _ h9 => h9) (fun _ h => mw_x h) rfl dX2_setSee_63 ?_
            refine g_iload_n S dX2_setSee_66 rfl 1 rfl ?_
            refine g_iald S xK (n := 24) (fun _ h => mw_se h) (by omega) (by decide) dX2_setSee_67 ?_
            refine g_istore_n S (lv' := [(3, .int (iI (se u))), (0, .ref (am 0)), (1, .int (iI u)), (2, .int (iI o))]) dX2_setSee_68 rfl (Nat.le_of_ble_eq_true rfl) rfl ?_
            refine g_aload_n S dX2_setSee_69 rfl 1 rfl ?_
            refine g_get S xK (ref := "BookIndexModel") hin2 4 (by decide) (show vwCl[2]? = some (RX2, TX2, 6) from rfl) kf17 (fun _ h9 => h9) (fun _ h => mw_x h) rfl dX2_setSee_70 ?_
            refine g_iload_n S dX2_setSee_73 rfl 2 rfl ?_
            refine g_iload_n S dX2_setSee_74 rfl 3 rfl ?_
            refine g_iast S xK (Wp' := MW E am 0 pg n on (upI se u o) al) (n := 24) (fun _ h => mw_se h) (by omega) (by decide) (am_in (by omega)) (fun _ _ h hv _ oq => mw_sSe hj h hv oq) dX2_setSee_75 ?_
            refine g_iload_n S dX2_setSee_76 rfl 0 rfl ?_
            exact g_iret S xr xlk dX2_setSee_77 (fun _ h => h)
          · skip
            refine g_aload_n S dX2_setSee_48 rfl 0 rfl ?_
            refine g_iload_n S dX2_setSee_49 rfl 1 rfl ?_
            refine g_callV S xK (As := [.int (iI u)]) (st := []) (stk' := [.int (iI (smI (fun k => on (302 * u + (k + 1))) pg.toNat))]) (Wp' := MW E am 0 pg n on se al) (r := (RX2, TX2, 6)) (m_X2_many l E hj 0 pg n on se al u (by omega) hpg hon) (cwV 1 S.2.2.2.2 gX2_setSee_X2_many rfl rfl rfl (by decide +kernel) ⟨Nat.le_of_ble_eq_true rfl, Nat.le_of_ble_eq_true rfl⟩) rfl rfl rfl rfl (Nat.le_of_ble_eq_true rfl) ⟨Nat.le_of_ble_eq_true rfl, Nat.le_of_ble_eq_true rfl⟩ (fun _ q => q.elim) (fun _ h => mw_x h) (fun _ h => h) (fun _ _ _ h _ _ => h) dX2_setSee_50 ?_
            have e53 := rl_many hrl hsp hon (a := u) (by omega) (by omega)
            have f53 := pgs_0 (hsp u (by omega) (by omega)).1
            have g53 := pgs_ge (hsp u (by omega) (by omega)).1
            have h53 := (hsp u (by omega) (by omega)).1.1
            have s53 := smI_01 (z := pg) (f := fun k => on (302 * u + (k + 1))) (by omega) (fun k _ _ => by have z := hon (302 * u + (k + 1)); omega)
            have j53 : (sp u).1 = 0 → smI (fun k => on (302 * u + (k + 1))) pg.toNat = 0 := fun z => e53.trans (f53.mpr z)
            refine g_if_le S (tgt := 62) dX2_setSee_53 (by decide) (by omega) (fun c53 => ?_) (fun c53 => ?_)
            · skip
              refine g_aload_n S dX2_setSee_62 rfl 0 rfl ?_
              refine g_get S xK (ref := "BookIndexModel") hin2 4 (by decide) (show vwCl[2]? = some (RX2, TX2, 6) from rfl) kf17 (fun _ h9 => h9) (fun _ h => mw_x h) rfl dX2_setSee_63 ?_
              refine g_iload_n S dX2_setSee_66 rfl 1 rfl ?_
              refine g_iald S xK (n := 24) (fun _ h => mw_se h) (by omega) (by decide) dX2_setSee_67 ?_
              refine g_istore_n S (lv' := [(3, .int (iI (se u))), (0, .ref (am 0)), (1, .int (iI u)), (2, .int (iI o))]) dX2_setSee_68 rfl (Nat.le_of_ble_eq_true rfl) rfl ?_
              refine g_aload_n S dX2_setSee_69 rfl 1 rfl ?_
              refine g_get S xK (ref := "BookIndexModel") hin2 4 (by decide) (show vwCl[2]? = some (RX2, TX2, 6) from rfl) kf17 (fun _ h9 => h9) (fun _ h => mw_x h) rfl dX2_setSee_70 ?_
              refine g_iload_n S dX2_setSee_73 rfl 2 rfl ?_
              refine g_iload_n S dX2_setSee_74 rfl 3 rfl ?_
              refine g_iast S xK (Wp' := MW E am 0 pg n on (upI se u o) al) (n := 24) (fun _ h => mw_se h) (by omega) (by decide) (am_in (by omega)) (fun _ _ h hv _ oq => mw_sSe hj h hv oq) dX2_setSee_75 ?_
              refine g_iload_n S dX2_setSee_76 rfl 0 rfl ?_
              exact g_iret S xr xlk dX2_setSee_77 (fun _ h => h)
            · skip
              exact absurd c53 (by omega)
        · skip
          exact absurd c34 (by omega)
      · skip
        exfalso; exact absurd c23 (by rw [pI_t (P := 0 ≤ o ∧ o ≤ n - 1) (by omega)]; decide)
set_option maxHeartbeats 4000000 in
set_option maxRecDepth 100000 in
theorem m_X2_setSeeE (l : Launch) (E : EN) {am : Int → Nat} (hj : INM am) (th pg n : Int) (on se : Int → Int) (al : Int → Nat) (u o : Int) (hh : u < 0 ∨ n ≤ u) (hr : -2147483648 ≤ u ∧ u ≤ 2147483647) (hn : 0 ≤ n ∧ n ≤ 24) (hr2 : -2147483648 ≤ o ∧ o ≤ 2147483647) : Met l yX2_setSee wsX2_setSee ({ frames := 2, cells := 0, slots := 0, locals := 43 }) (CI E [.ref (am 0), .int (iI u), .int (iI o)] (MW E am th pg n on se al)) (QW (some (.int (iI 0))) (MW E am 1 pg n on se al) (AM am)) 0 0 (AM am) := by
  refine g_met (cc := cX2_setSee) (maxL := 4) (ret := (some .int)) (lv := [(0, .ref (am 0)), (1, .int (iI u)), (2, .int (iI o))]) (by decide) rfl (Nat.le_of_ble_eq_true rfl) rfl ?_
  intro xp xe xs xm xa xb xh xc S xK xr xlk xin
  have kf24 := S.2.2.2.2 (.fieldLink RX2 24 "BookIndexModel" "thrown" "I") (by decide +kernel)
  have hin2 : ∀ w ∈ wsX20, w ∈ wsX2_setSee := by decide +kernel
  refine g_aload_n S dX2_setSee_0 rfl 0 rfl ?_
  refine g_iconst S dX2_setSee_1 ?_
  refine g_put S xK (Wp' := MW E am 0 pg n on se al) (ref := "BookIndexModel") (ty := .int) hin2 tyX2 tyX2_ok nmX2 0 (by decide) (show vwCl[2]? = some (RX2, TX2, 6) from rfl) kf24 (fun _ h9 => h9) rfl (by decide +kernel) rfl rfl (fun _ h => mw_x h) (Nat.le_of_ble_eq_true rfl) (am_in (by omega)) (fun _ _ h hv _ oq => mw_sX hj h hv oq) dX2_setSee_2 ?_
  refine g_aload_n S dX2_setSee_5 rfl 0 rfl ?_
  refine g_iload_n S dX2_setSee_6 rfl 1 rfl ?_
  refine g_callV S xK (As := [.int (iI u)]) (st := []) (stk' := [.int (iI (pI (0 ≤ u ∧ u ≤ n - 1)))]) (Wp' := MW E am 0 pg n on se al) (r := (RX2, TX2, 6)) (m_X2_isHeading l E hj 0 pg n on se al u (by omega) hn) (cwV 1 S.2.2.2.2 gX2_setSee_X2_isHeading rfl rfl rfl (by decide +kernel) ⟨Nat.le_of_ble_eq_true rfl, Nat.le_of_ble_eq_true rfl⟩) rfl rfl rfl rfl (Nat.le_of_ble_eq_true rfl) ⟨Nat.le_of_ble_eq_true rfl, Nat.le_of_ble_eq_true rfl⟩ (fun _ q => q.elim) (fun _ h => mw_x h) (fun _ h => h) (fun _ _ _ h _ _ => h) dX2_setSee_7 ?_
  have z10 := pI_b (0 ≤ u ∧ u ≤ n - 1)
  refine g_if_eq S (tgt := 26) dX2_setSee_10 (by decide) (by omega) (fun c10 => ?_) (fun c10 => ?_)
  · skip
    refine g_aload_n S dX2_setSee_26 rfl 0 rfl ?_
    refine g_iconst S dX2_setSee_27 ?_
    refine g_callV S xK (As := [.int (iI 1)]) (st := []) (stk' := [.int (iI 0)]) (Wp' := MW E am 1 pg n on se al) (r := (RX2, TX2, 6)) (m_X2_no l E hj 0 pg n on se al 1 ) (cwV 1 S.2.2.2.2 gX2_setSee_X2_no rfl rfl rfl (by decide +kernel) ⟨Nat.le_of_ble_eq_true rfl, Nat.le_of_ble_eq_true rfl⟩) rfl rfl rfl rfl (Nat.le_of_ble_eq_true rfl) ⟨Nat.le_of_ble_eq_true rfl, Nat.le_of_ble_eq_true rfl⟩ (fun _ q => q) (fun _ h => mw_x h) (fun _ h => h) (fun _ _ _ h _ _ => h) dX2_setSee_28 ?_
    exact g_iret S xr xlk dX2_setSee_31 (fun _ h => h)
  · skip
    exact absurd c10 (fun z => z (pI_f (P := 0 ≤ u ∧ u ≤ n - 1) (by omega)))
set_option maxHeartbeats 4000000 in
set_option maxRecDepth 100000 in
theorem m_X2_setSeeF (l : Launch) (E : EN) {am : Int → Nat} (hj : INM am) (th pg n : Int) (on se : Int → Int) (al : Int → Nat) (u o : Int) (hh : 0 ≤ u ∧ u < n) (hn : 0 ≤ n ∧ n ≤ 24) (ho : o < -1 ∨ n ≤ o) (hr : -2147483648 ≤ o ∧ o ≤ 2147483647) : Met l yX2_setSee wsX2_setSee ({ frames := 2, cells := 0, slots := 0, locals := 43 }) (CI E [.ref (am 0), .int (iI u), .int (iI o)] (MW E am th pg n on se al)) (QW (some (.int (iI 0))) (MW E am 1 pg n on se al) (AM am)) 0 0 (AM am) := by
  refine g_met (cc := cX2_setSee) (maxL := 4) (ret := (some .int)) (lv := [(0, .ref (am 0)), (1, .int (iI u)), (2, .int (iI o))]) (by decide) rfl (Nat.le_of_ble_eq_true rfl) rfl ?_
  intro xp xe xs xm xa xb xh xc S xK xr xlk xin
  have kf24 := S.2.2.2.2 (.fieldLink RX2 24 "BookIndexModel" "thrown" "I") (by decide +kernel)
  have hin2 : ∀ w ∈ wsX20, w ∈ wsX2_setSee := by decide +kernel
  refine g_aload_n S dX2_setSee_0 rfl 0 rfl ?_
  refine g_iconst S dX2_setSee_1 ?_
  refine g_put S xK (Wp' := MW E am 0 pg n on se al) (ref := "BookIndexModel") (ty := .int) hin2 tyX2 tyX2_ok nmX2 0 (by decide) (show vwCl[2]? = some (RX2, TX2, 6) from rfl) kf24 (fun _ h9 => h9) rfl (by decide +kernel) rfl rfl (fun _ h => mw_x h) (Nat.le_of_ble_eq_true rfl) (am_in (by omega)) (fun _ _ h hv _ oq => mw_sX hj h hv oq) dX2_setSee_2 ?_
  refine g_aload_n S dX2_setSee_5 rfl 0 rfl ?_
  refine g_iload_n S dX2_setSee_6 rfl 1 rfl ?_
  refine g_callV S xK (As := [.int (iI u)]) (st := []) (stk' := [.int (iI (pI (0 ≤ u ∧ u ≤ n - 1)))]) (Wp' := MW E am 0 pg n on se al) (r := (RX2, TX2, 6)) (m_X2_isHeading l E hj 0 pg n on se al u (by omega) hn) (cwV 1 S.2.2.2.2 gX2_setSee_X2_isHeading rfl rfl rfl (by decide +kernel) ⟨Nat.le_of_ble_eq_true rfl, Nat.le_of_ble_eq_true rfl⟩) rfl rfl rfl rfl (Nat.le_of_ble_eq_true rfl) ⟨Nat.le_of_ble_eq_true rfl, Nat.le_of_ble_eq_true rfl⟩ (fun _ q => q.elim) (fun _ h => mw_x h) (fun _ h => h) (fun _ _ _ h _ _ => h) dX2_setSee_7 ?_
  have z10 := pI_b (0 ≤ u ∧ u ≤ n - 1)
  refine g_if_eq S (tgt := 26) dX2_setSee_10 (by decide) (by omega) (fun c10 => ?_) (fun c10 => ?_)
  · skip
    exact absurd c10 (by rw [pI_t (P := 0 ≤ u ∧ u ≤ n - 1) (by omega)]; decide)
  · skip
    refine g_iload_n S dX2_setSee_13 rfl 2 rfl ?_
    refine g_iconst S dX2_setSee_14 ?_
    refine g_icmp_eq S (tgt := 32) dX2_setSee_15 (by decide) (by omega) (fun c15 => ?_) (fun c15 => ?_)
    · skip
      exact absurd c15 (by omega)
    · skip
      refine g_aload_n S dX2_setSee_18 rfl 0 rfl ?_
      refine g_iload_n S dX2_setSee_19 rfl 2 rfl ?_
      refine g_callV S xK (As := [.int (iI o)]) (st := []) (stk' := [.int (iI (pI (0 ≤ o ∧ o ≤ n - 1)))]) (Wp' := MW E am 0 pg n on se al) (r := (RX2, TX2, 6)) (m_X2_isHeading l E hj 0 pg n on se al o (by omega) hn) (cwV 1 S.2.2.2.2 gX2_setSee_X2_isHeading rfl rfl rfl (by decide +kernel) ⟨Nat.le_of_ble_eq_true rfl, Nat.le_of_ble_eq_true rfl⟩) rfl rfl rfl rfl (Nat.le_of_ble_eq_true rfl) ⟨Nat.le_of_ble_eq_true rfl, Nat.le_of_ble_eq_true rfl⟩ (fun _ q => q.elim) (fun _ h => mw_x h) (fun _ h => h) (fun _ _ _ h _ _ => h) dX2_setSee_20 ?_
      have z23 := pI_b (0 ≤ o ∧ o ≤ n - 1)
      refine g_if_ne S (tgt := 32) dX2_setSee_23 (by decide) (by omega) (fun c23 => ?_) (fun c23 => ?_)
      · skip
        exact absurd c23 (fun z => z (pI_f (P := 0 ≤ o ∧ o ≤ n - 1) (by omega)))
      · skip
        refine g_aload_n S dX2_setSee_26 rfl 0 rfl ?_
        refine g_iconst S dX2_setSee_27 ?_
        refine g_callV S xK (As := [.int (iI 1)]) (st := []) (stk' := [.int (iI 0)]) (Wp' := MW E am 1 pg n on se al) (r := (RX2, TX2, 6)) (m_X2_no l E hj 0 pg n on se al 1 ) (cwV 1 S.2.2.2.2 gX2_setSee_X2_no rfl rfl rfl (by decide +kernel) ⟨Nat.le_of_ble_eq_true rfl, Nat.le_of_ble_eq_true rfl⟩) rfl rfl rfl rfl (Nat.le_of_ble_eq_true rfl) ⟨Nat.le_of_ble_eq_true rfl, Nat.le_of_ble_eq_true rfl⟩ (fun _ q => q) (fun _ h => mw_x h) (fun _ h => h) (fun _ _ _ h _ _ => h) dX2_setSee_28 ?_
        exact g_iret S xr xlk dX2_setSee_31 (fun _ h => h)
set_option maxHeartbeats 4000000 in
set_option maxRecDepth 100000 in
theorem m_X2_setSeeG (l : Launch) (E : EN) {am : Int → Nat} (hj : INM am) (th pg n : Int) (on se : Int → Int) (al : Int → Nat) (u o : Int) (hh : 0 ≤ u ∧ u < n) (hn : 0 ≤ n ∧ n ≤ 24) (ho : o = u) : Met l yX2_setSee wsX2_setSee ({ frames := 2, cells := 0, slots := 0, locals := 43 }) (CI E [.ref (am 0), .int (iI u), .int (iI o)] (MW E am th pg n on se al)) (QW (some (.int (iI 0))) (MW E am 2 pg n on se al) (AM am)) 0 0 (AM am) := by
  refine g_met (cc := cX2_setSee) (maxL := 4) (ret := (some .int)) (lv := [(0, .ref (am 0)), (1, .int (iI u)), (2, .int (iI o))]) (by decide) rfl (Nat.le_of_ble_eq_true rfl) rfl ?_
  intro xp xe xs xm xa xb xh xc S xK xr xlk xin
  have kf24 := S.2.2.2.2 (.fieldLink RX2 24 "BookIndexModel" "thrown" "I") (by decide +kernel)
  have hin2 : ∀ w ∈ wsX20, w ∈ wsX2_setSee := by decide +kernel
  refine g_aload_n S dX2_setSee_0 rfl 0 rfl ?_
  refine g_iconst S dX2_setSee_1 ?_
  refine g_put S xK (Wp' := MW E am 0 pg n on se al) (ref := "BookIndexModel") (ty := .int) hin2 tyX2 tyX2_ok nmX2 0 (by decide) (show vwCl[2]? = some (RX2, TX2, 6) from rfl) kf24 (fun _ h9 => h9) rfl (by decide +kernel) rfl rfl (fun _ h => mw_x h) (Nat.le_of_ble_eq_true rfl) (am_in (by omega)) (fun _ _ h hv _ oq => mw_sX hj h hv oq) dX2_setSee_2 ?_
  refine g_aload_n S dX2_setSee_5 rfl 0 rfl ?_
  refine g_iload_n S dX2_setSee_6 rfl 1 rfl ?_
  refine g_callV S xK (As := [.int (iI u)]) (st := []) (stk' := [.int (iI (pI (0 ≤ u ∧ u ≤ n - 1)))]) (Wp' := MW E am 0 pg n on se al) (r := (RX2, TX2, 6)) (m_X2_isHeading l E hj 0 pg n on se al u (by omega) hn) (cwV 1 S.2.2.2.2 gX2_setSee_X2_isHeading rfl rfl rfl (by decide +kernel) ⟨Nat.le_of_ble_eq_true rfl, Nat.le_of_ble_eq_true rfl⟩) rfl rfl rfl rfl (Nat.le_of_ble_eq_true rfl) ⟨Nat.le_of_ble_eq_true rfl, Nat.le_of_ble_eq_true rfl⟩ (fun _ q => q.elim) (fun _ h => mw_x h) (fun _ h => h) (fun _ _ _ h _ _ => h) dX2_setSee_7 ?_
  have z10 := pI_b (0 ≤ u ∧ u ≤ n - 1)
  refine g_if_eq S (tgt := 26) dX2_setSee_10 (by decide) (by omega) (fun c10 => ?_) (fun c10 => ?_)
  · skip
    exact absurd c10 (by rw [pI_t (P := 0 ≤ u ∧ u ≤ n - 1) (by omega)]; decide)
  · skip
    refine g_iload_n S dX2_setSee_13 rfl 2 rfl ?_
    refine g_iconst S dX2_setSee_14 ?_
    refine g_icmp_eq S (tgt := 32) dX2_setSee_15 (by decide) (by omega) (fun c15 => ?_) (fun c15 => ?_)
    · skip
      exact absurd c15 (by omega)
    · skip
      refine g_aload_n S dX2_setSee_18 rfl 0 rfl ?_
      refine g_iload_n S dX2_setSee_19 rfl 2 rfl ?_
      refine g_callV S xK (As := [.int (iI o)]) (st := []) (stk' := [.int (iI (pI (0 ≤ o ∧ o ≤ n - 1)))]) (Wp' := MW E am 0 pg n on se al) (r := (RX2, TX2, 6)) (m_X2_isHeading l E hj 0 pg n on se al o (by omega) hn) (cwV 1 S.2.2.2.2 gX2_setSee_X2_isHeading rfl rfl rfl (by decide +kernel) ⟨Nat.le_of_ble_eq_true rfl, Nat.le_of_ble_eq_true rfl⟩) rfl rfl rfl rfl (Nat.le_of_ble_eq_true rfl) ⟨Nat.le_of_ble_eq_true rfl, Nat.le_of_ble_eq_true rfl⟩ (fun _ q => q.elim) (fun _ h => mw_x h) (fun _ h => h) (fun _ _ _ h _ _ => h) dX2_setSee_20 ?_
      have z23 := pI_b (0 ≤ o ∧ o ≤ n - 1)
      refine g_if_ne S (tgt := 32) dX2_setSee_23 (by decide) (by omega) (fun c23 => ?_) (fun c23 => ?_)
      · skip
        refine g_iload_n S dX2_setSee_32 rfl 1 rfl ?_
        refine g_iload_n S dX2_setSee_33 rfl 2 rfl ?_
        refine g_icmp_ne S (tgt := 43) dX2_setSee_34 (by decide) (by omega) (fun c34 => ?_) (fun c34 => ?_)
        · skip
          exact absurd c34 (by omega)
        · skip
          refine g_aload_n S dX2_setSee_37 rfl 0 rfl ?_
          refine g_iconst S dX2_setSee_38 ?_
          refine g_callV S xK (As := [.int (iI 2)]) (st := []) (stk' := [.int (iI 0)]) (Wp' := MW E am 2 pg n on se al) (r := (RX2, TX2, 6)) (m_X2_no l E hj 0 pg n on se al 2 ) (cwV 1 S.2.2.2.2 gX2_setSee_X2_no rfl rfl rfl (by decide +kernel) ⟨Nat.le_of_ble_eq_true rfl, Nat.le_of_ble_eq_true rfl⟩) rfl rfl rfl rfl (Nat.le_of_ble_eq_true rfl) ⟨Nat.le_of_ble_eq_true rfl, Nat.le_of_ble_eq_true rfl⟩ (fun _ q => q) (fun _ h => mw_x h) (fun _ h => h) (fun _ _ _ h _ _ => h) dX2_setSee_39 ?_
          exact g_iret S xr xlk dX2_setSee_42 (fun _ h => h)
      · skip
        exact absurd c23 (by rw [pI_t (P := 0 ≤ o ∧ o ≤ n - 1) (by omega)]; decide)
set_option maxHeartbeats 4000000 in
set_option maxRecDepth 100000 in
theorem m_X2_setSeeH (l : Launch) (E : EN) {am : Int → Nat} (hj : INM am) (th pg n : Int) (on se : Int → Int) (al : Int → Nat) (sp : Int → SpT) (u o : Int) (hh : 0 ≤ u ∧ u < n) (hn : 0 ≤ n ∧ n ≤ 24) (ho : 0 ≤ o ∧ o < n ∧ o ≠ u) (hc : (sp u).1 ≠ 0) (hpg : 1 ≤ pg ∧ pg ≤ 300) (hrl : RPS on sp n) (hsp : SPV sp n pg) (hon : ∀ k, on k = 0 ∨ on k = 1) : Met l yX2_setSee wsX2_setSee ({ frames := 2, cells := 0, slots := 0, locals := 45 }) (CI E [.ref (am 0), .int (iI u), .int (iI o)] (MW E am th pg n on se al)) (QW (some (.int (iI 0))) (MW E am 3 pg n on se al) (AM am)) 0 0 (AM am) := by
  refine g_met (cc := cX2_setSee) (maxL := 4) (ret := (some .int)) (lv := [(0, .ref (am 0)), (1, .int (iI u)), (2, .int (iI o))]) (by decide) rfl (Nat.le_of_ble_eq_true rfl) rfl ?_
  intro xp xe xs xm xa xb xh xc S xK xr xlk xin
  have kf24 := S.2.2.2.2 (.fieldLink RX2 24 "BookIndexModel" "thrown" "I") (by decide +kernel)
  have hin2 : ∀ w ∈ wsX20, w ∈ wsX2_setSee := by decide +kernel
  refine g_aload_n S dX2_setSee_0 rfl 0 rfl ?_
  refine g_iconst S dX2_setSee_1 ?_
  refine g_put S xK (Wp' := MW E am 0 pg n on se al) (ref := "BookIndexModel") (ty := .int) hin2 tyX2 tyX2_ok nmX2 0 (by decide) (show vwCl[2]? = some (RX2, TX2, 6) from rfl) kf24 (fun _ h9 => h9) rfl (by decide +kernel) rfl rfl (fun _ h => mw_x h) (Nat.le_of_ble_eq_true rfl) (am_in (by omega)) (fun _ _ h hv _ oq => mw_sX hj h hv oq) dX2_setSee_2 ?_
  refine g_aload_n S dX2_setSee_5 rfl 0 rfl ?_
  refine g_iload_n S dX2_setSee_6 rfl 1 rfl ?_
  refine g_callV S xK (As := [.int (iI u)]) (st := []) (stk' := [.int (iI (pI (0 ≤ u ∧ u ≤ n - 1)))]) (Wp' := MW E am 0 pg n on se al) (r := (RX2, TX2, 6)) (m_X2_isHeading l E hj 0 pg n on se al u (by omega) hn) (cwV 1 S.2.2.2.2 gX2_setSee_X2_isHeading rfl rfl rfl (by decide +kernel) ⟨Nat.le_of_ble_eq_true rfl, Nat.le_of_ble_eq_true rfl⟩) rfl rfl rfl rfl (Nat.le_of_ble_eq_true rfl) ⟨Nat.le_of_ble_eq_true rfl, Nat.le_of_ble_eq_true rfl⟩ (fun _ q => q.elim) (fun _ h => mw_x h) (fun _ h => h) (fun _ _ _ h _ _ => h) dX2_setSee_7 ?_
  have z10 := pI_b (0 ≤ u ∧ u ≤ n - 1)
  refine g_if_eq S (tgt := 26) dX2_setSee_10 (by decide) (by omega) (fun c10 => ?_) (fun c10 => ?_)
  · skip
    exact absurd c10 (by rw [pI_t (P := 0 ≤ u ∧ u ≤ n - 1) (by omega)]; decide)
  · skip
    refine g_iload_n S dX2_setSee_13 rfl 2 rfl ?_
    refine g_iconst S dX2_setSee_14 ?_
    refine g_icmp_eq S (tgt := 32) dX2_setSee_15 (by decide) (by omega) (fun c15 => ?_) (fun c15 => ?_)
    · skip
      exact absurd c15 (by omega)
    · skip
      refine g_aload_n S dX2_setSee_18 rfl 0 rfl ?_
      refine g_iload_n S dX2_setSee_19 rfl 2 rfl ?_
      refine g_callV S xK (As := [.int (iI o)]) (st := []) (stk' := [.int (iI (pI (0 ≤ o ∧ o ≤ n - 1)))]) (Wp' := MW E am 0 pg n on se al) (r := (RX2, TX2, 6)) (m_X2_isHeading l E hj 0 pg n on se al o (by omega) hn) (cwV 1 S.2.2.2.2 gX2_setSee_X2_isHeading rfl rfl rfl (by decide +kernel) ⟨Nat.le_of_ble_eq_true rfl, Nat.le_of_ble_eq_true rfl⟩) rfl rfl rfl rfl (Nat.le_of_ble_eq_true rfl) ⟨Nat.le_of_ble_eq_true rfl, Nat.le_of_ble_eq_true rfl⟩ (fun _ q => q.elim) (fun _ h => mw_x h) (fun _ h => h) (fun _ _ _ h _ _ => h) dX2_setSee_20 ?_
      have z23 := pI_b (0 ≤ o ∧ o ≤ n - 1)
      refine g_if_ne S (tgt := 32) dX2_setSee_23 (by decide) (by omega) (fun c23 => ?_) (fun c23 => ?_)
      · skip
        refine g_iload_n S dX2_setSee_32 rfl 1 rfl ?_
        refine g_iload_n S dX2_setSee_33 rfl 2 rfl ?_
        refine g_icmp_ne S (tgt := 43) dX2_setSee_34 (by decide) (by omega) (fun c34 => ?_) (fun c34 => ?_)
        · skip
          refine g_iload_n S dX2_setSee_43 rfl 2 rfl ?_
          refine g_iconst S dX2_setSee_44 ?_
          refine g_icmp_eq S (tgt := 62) dX2_setSee_45 (by decide) (by omega) (fun c45 => ?_) (fun c45 => ?_)
          · skip
            exact absurd c45 (by omega)
          · skip
            refine g_aload_n S dX2_setSee_48 rfl 0 rfl ?_
            refine g_iload_n S dX2_setSee_49 rfl 1 rfl ?_
            refine g_callV S xK (As := [.int (iI u)]) (st := []) (stk' := [.int (iI (smI (fun k => on (302 * u + (k + 1))) pg.toNat))]) (Wp' := MW E am 0 pg n on se al) (r := (RX2, TX2, 6)) (m_X2_many l E hj 0 pg n on se al u (by omega) hpg hon) (cwV 1 S.2.2.2.2 gX2_setSee_X2_many rfl rfl rfl (by decide +kernel) ⟨Nat.le_of_ble_eq_true rfl, Nat.le_of_ble_eq_true rfl⟩) rfl rfl rfl rfl (Nat.le_of_ble_eq_true rfl) ⟨Nat.le_of_ble_eq_true rfl, Nat.le_of_ble_eq_true rfl⟩ (fun _ q => q.elim) (fun _ h => mw_x h) (fun _ h => h) (fun _ _ _ h _ _ => h) dX2_setSee_50 ?_
            have e53 := rl_many hrl hsp hon (a := u) (by omega) (by omega)
            have f53 := pgs_0 (hsp u (by omega) (by omega)).1
            have g53 := pgs_ge (hsp u (by omega) (by omega)).1
            have h53 := (hsp u (by omega) (by omega)).1.1
            have s53 := smI_01 (z := pg) (f := fun k => on (302 * u + (k + 1))) (by omega) (fun k _ _ => by have z := hon (302 * u + (k + 1)); omega)
            have j53 : (sp u).1 ≠ 0 → 0 < smI (fun k => on (302 * u + (k + 1))) pg.toNat := fun z => by rw [e53]; exact Int.lt_of_lt_of_le (show 0 < (sp u).1 by omega) g53
            refine g_if_le S (tgt := 62) dX2_setSee_53 (by decide) (by omega) (fun c53 => ?_) (fun c53 => ?_)
            · skip
              exact absurd c53 (by omega)
            · skip
              refine g_aload_n S dX2_setSee_56 rfl 0 rfl ?_
              refine g_iconst S dX2_setSee_57 ?_
              refine g_callV S xK (As := [.int (iI 3)]) (st := []) (stk' := [.int (iI 0)]) (Wp' := MW E am 3 pg n on se al) (r := (RX2, TX2, 6)) (m_X2_no l E hj 0 pg n on se al 3 ) (cwV 1 S.2.2.2.2 gX2_setSee_X2_no rfl rfl rfl (by decide +kernel) ⟨Nat.le_of_ble_eq_true rfl, Nat.le_of_ble_eq_true rfl⟩) rfl rfl rfl rfl (Nat.le_of_ble_eq_true rfl) ⟨Nat.le_of_ble_eq_true rfl, Nat.le_of_ble_eq_true rfl⟩ (fun _ q => q) (fun _ h => mw_x h) (fun _ h => h) (fun _ _ _ h _ _ => h) dX2_setSee_58 ?_
              exact g_iret S xr xlk dX2_setSee_61 (fun _ h => h)
        · skip
          exact absurd c34 (by omega)
      · skip
        exact absurd c23 (by rw [pI_t (P := 0 ≤ o ∧ o ≤ n - 1) (by omega)]; decide)
set_option maxHeartbeats 4000000 in
set_option maxRecDepth 100000 in
theorem m_X2_turnSeeAlso (l : Launch) (E : EN) {am : Int → Nat} (hj : INM am) (th pg n : Int) (on se : Int → Int) (al : Int → Nat) (sp : Int → SpT) (u o : Int) (hh : 0 ≤ u ∧ u < n) (hn : 0 ≤ n ∧ n ≤ 24) (ho : 0 ≤ o ∧ o < n ∧ o ≠ u) (hgr : GR se al n) (hp4 : pop (al u) 24 ≤ 4) (hc : pop (al u ^^^ 2 ^ o.toNat) 24 ≤ 4) : Met l yX2_turnSeeAlso wsX2_turnSeeAlso ({ frames := 2, cells := 0, slots := 0, locals := 43 }) (CI E [.ref (am 0), .int (iI u), .int (iI o)] (MW E am th pg n on se al)) (QW (some (.int (iI ((pop (al u ^^^ 2 ^ o.toNat) 24 : Nat) : Int)))) (MW E am 0 pg n on se (upI al u (al u ^^^ 2 ^ o.toNat))) (AM am)) 0 0 (AM am) := by
  refine g_met (cc := cX2_turnSeeAlso) (maxL := 4) (ret := (some .int)) (lv := [(0, .ref (am 0)), (1, .int (iI u)), (2, .int (iI o))]) (by decide) rfl (Nat.le_of_ble_eq_true rfl) rfl ?_
  intro xp xe xs xm xa xb xh xc S xK xr xlk xin
  have kf24 := S.2.2.2.2 (.fieldLink RX2 24 "BookIndexModel" "thrown" "I") (by decide +kernel)
  have kf21 := S.2.2.2.2 (.fieldLink RX2 21 "BookIndexModel" "also" "[I") (by decide +kernel)
  have hin2 : ∀ w ∈ wsX20, w ∈ wsX2_turnSeeAlso := by decide +kernel
  have hxl : al u ^^^ 2 ^ o.toNat < 2 ^ n.toNat := Nat.xor_lt_two_pow (hgr.2 u (by omega) (by omega)) (Nat.pow_lt_pow_right (by decide) (by omega))
  have pxo := (pop_xor (al u) o.toNat 24).2 (by omega)
  have pl4 := pop_le (al u) 24
  refine g_aload_n S dX2_turnSeeAlso_0 rfl 0 rfl ?_
  refine g_iconst S dX2_turnSeeAlso_1 ?_
  refine g_put S xK (Wp' := MW E am 0 pg n on se al) (ref := "BookIndexModel") (ty := .int) hin2 tyX2 tyX2_ok nmX2 0 (by decide) (show vwCl[2]? = some (RX2, TX2, 6) from rfl) kf24 (fun _ h9 => h9) rfl (by decide +kernel) rfl rfl (fun _ h => mw_x h) (Nat.le_of_ble_eq_true rfl) (am_in (by omega)) (fun _ _ h hv _ oq => mw_sX hj h hv oq) dX2_turnSeeAlso_2 ?_
  refine g_aload_n S dX2_turnSeeAlso_5 rfl 0 rfl ?_
  refine g_iload_n S dX2_turnSeeAlso_6 rfl 1 rfl ?_
  refine g_callV S xK (As := [.int (iI u)]) (st := []) (stk' := [.int (iI (pI (0 ≤ u ∧ u ≤ n - 1)))]) (Wp' := MW E am 0 pg n on se al) (r := (RX2, TX2, 6)) (m_X2_isHeading l E hj 0 pg n on se al u (by omega) hn) (cwV 1 S.2.2.2.2 gX2_turnSeeAlso_X2_isHeading rfl rfl rfl (by decide +kernel) ⟨Nat.le_of_ble_eq_true rfl, Nat.le_of_ble_eq_true rfl⟩) rfl rfl rfl rfl (Nat.le_of_ble_eq_true rfl) ⟨Nat.le_of_ble_eq_true rfl, Nat.le_of_ble_eq_true rfl⟩ (fun _ q => q.elim) (fun _ h => mw_x h) (fun _ h => h) (fun _ _ _ h _ _ => h) dX2_turnSeeAlso_7 ?_
  have z10 := pI_b (0 ≤ u ∧ u ≤ n - 1)
  refine g_if_eq S (tgt := 21) dX2_turnSeeAlso_10 (by decide) (by omega) (fun c10 => ?_) (fun c10 => ?_)
  · skip
    exact absurd c10 (by rw [pI_t (P := 0 ≤ u ∧ u ≤ n - 1) (by omega)]; decide)
  · skip
    refine g_aload_n S dX2_turnSeeAlso_13 rfl 0 rfl ?_
    refine g_iload_n S dX2_turnSeeAlso_14 rfl 2 rfl ?_
    refine g_callV S xK (As := [.int (iI o)]) (st := []) (stk' := [.int (iI (pI (0 ≤ o ∧ o ≤ n - 1)))]) (Wp' := MW E am 0 pg n on se al) (r := (RX2, TX2, 6)) (m_X2_isHeading l E hj 0 pg n on se al o (by omega) hn) (cwV 1 S.2.2.2.2 gX2_turnSeeAlso_X2_isHeading rfl rfl rfl (by decide +kernel) ⟨Nat.le_of_ble_eq_true rfl, Nat.le_of_ble_eq_true rfl⟩) rfl rfl rfl rfl (Nat.le_of_ble_eq_true rfl) ⟨Nat.le_of_ble_eq_true rfl, Nat.le_of_ble_eq_true rfl⟩ (fun _ q => q.elim) (fun _ h => mw_x h) (fun _ h => h) (fun _ _ _ h _ _ => h) dX2_turnSeeAlso_15 ?_
    have z18 := pI_b (0 ≤ o ∧ o ≤ n - 1)
    refine g_if_ne S (tgt := 27) dX2_turnSeeAlso_18 (by decide) (by omega) (fun c18 => ?_) (fun c18 => ?_)
    · skip
      refine g_iload_n S dX2_turnSeeAlso_27 rfl 1 rfl ?_
      refine g_iload_n S dX2_turnSeeAlso_28 rfl 2 rfl ?_
      refine g_icmp_ne S (tgt := 38) dX2_turnSeeAlso_29 (by decide) (by omega) (fun c29 => ?_) (fun c29 => ?_)
      · skip
        refine g_aload_n S dX2_turnSeeAlso_38 rfl 0 rfl ?_
        refine g_get S xK (ref := "BookIndexModel") hin2 5 (by decide) (show vwCl[2]? = some (RX2, TX2, 6) from rfl) kf21 (fun _ h9 => h9) (fun _ h => mw_x h) rfl dX2_turnSeeAlso_39 ?_
        refine g_iload_n S dX2_turnSeeAlso_42 rfl 1 rfl ?_
        refine g_iald S xK (n := 24) (fun _ h => mw_al h) (by omega) (by decide) dX2_turnSeeAlso_43 ?_
        refine g_iload_n S dX2_turnSeeAlso_44 rfl 2 rfl ?_
        refine g_ishr S (z := (iI ((al u : Nat) : Int) >>> (iI o &&& 31))) dX2_turnSeeAlso_45 (rfl) ?_
        refine g_iconst S dX2_turnSeeAlso_46 ?_
        refine g_iand S (z := (iI (pI ((al u).testBit o.toNat = true)))) dX2_turnSeeAlso_47 (iI_bit (lt24 hn (hgr.2 u (by omega) (by omega))) (by omega)) ?_
        refine g_iconst S dX2_turnSeeAlso_48 ?_
        have z49 := pI_b ((al u).testBit o.toNat = true)
        refine g_icmp_ne S (tgt := 56) dX2_turnSeeAlso_49 (by decide) (by omega) (fun c49 => ?_) (fun c49 => ?_)
        · skip
          refine g_iconst S dX2_turnSeeAlso_56 ?_
          refine g_istore_n S (lv' := [(3, .int (iI 0)), (0, .ref (am 0)), (1, .int (iI u)), (2, .int (iI o))]) dX2_turnSeeAlso_57 rfl (Nat.le_of_ble_eq_true rfl) rfl ?_
          refine g_iload_n S dX2_turnSeeAlso_58 rfl 0 rfl ?_
          refine g_if_ne S (tgt := 81) dX2_turnSeeAlso_59 (by decide) (by omega) (fun c59 => ?_) (fun c59 => ?_)
          · skip
            exact absurd c59 (by decide)
          · skip
            refine g_aload_n S dX2_turnSeeAlso_62 rfl 1 rfl ?_
            refine g_get S xK (ref := "BookIndexModel") hin2 5 (by decide) (show vwCl[2]? = some (RX2, TX2, 6) from rfl) kf21 (fun _ h9 => h9) (fun _ h => mw_x h) rfl dX2_turnSeeAlso_63 ?_
            refine g_iload_n S dX2_turnSeeAlso_66 rfl 2 rfl ?_
            refine g_iald S xK (n := 24) (fun _ h => mw_al h) (by omega) (by decide) dX2_turnSeeAlso_67 ?_
            refine g_callS S xK (As := [.int (iI ((al u : Nat) : Int))]) (st := []) (stk' := [.int (iI ((pop (al u) 24 : Nat) : Int))]) (Wp' := MW E am 0 pg n on se al) (m_J6_bitCount_0f7a4 l E (MW E am 0 pg n on se al) (al u) (lt24 hn (hgr.2 u (by omega) (by omega)))) (va_cwS 1 S.2.2.2.2 gX2_turnSeeAlso_J6_bitCount_0f7a4 rfl rfl rfl (by decide +kernel) ⟨Nat.le_of_ble_eq_true rfl, Nat.le_of_ble_eq_true rfl⟩) rfl rfl rfl (Nat.le_of_ble_eq_true rfl) ⟨Nat.le_of_ble_eq_true rfl, Nat.le_of_ble_eq_true rfl⟩ (fun _ q => q.elim) (fun _ h => h) (fun _ _ _ h _ _ => h) dX2_turnSeeAlso_68 ?_
            refine g_iconst S dX2_turnSeeAlso_71 ?_
            have p72 := pxo.2 (pI_ne1 c49)
            refine g_icmp_ne S (tgt := 81) dX2_turnSeeAlso_72 (by decide) (by omega) (fun c72 => ?_) (fun c72 => ?_)
            · skip
              refine g_aload_n S dX2_turnSeeAlso_81 rfl 1 rfl ?_
              refine g_get S xK (ref := "BookIndexModel") hin2 5 (by decide) (show vwCl[2]? = some (RX2, TX2, 6) from rfl) kf21 (fun _ h9 => h9) (fun _ h => mw_x h) rfl dX2_turnSeeAlso_82 ?_
              refine g_iload_n S dX2_turnSeeAlso_85 rfl 2 rfl ?_
              refine g_dup2 S dX2_turnSeeAlso_86 rfl rfl ?_
              refine g_iald S xK (n := 24) (fun _ h => mw_al h) (by omega) (by decide) dX2_turnSeeAlso_87 ?_
              refine g_iconst S dX2_turnSeeAlso_88 ?_
              refine g_iload_n S dX2_turnSeeAlso_89 rfl 3 rfl ?_
              refine g_ishl S (z := (iI ((2 ^ o.toNat : Nat) : Int))) dX2_turnSeeAlso_90 (iI_shl1 (by omega)) ?_
              refine g_ixor S (z := (iI ((al u ^^^ 2 ^ o.toNat : Nat) : Int))) dX2_turnSeeAlso_91 (iI_xor _ _) ?_
              refine g_iast S xK (Wp' := MW E am 0 pg n on se (upI al u (al u ^^^ 2 ^ o.toNat))) (n := 24) (fun _ h => mw_al h) (by omega) (by decide) (am_in (by omega)) (fun _ _ h hv _ oq => mw_sAl hj h hv oq) dX2_turnSeeAlso_92 ?_
              refine g_aload_n S dX2_turnSeeAlso_93 rfl 1 rfl ?_
              refine g_get S xK (ref := "BookIndexModel") hin2 5 (by decide) (show vwCl[2]? = some (RX2, TX2, 6) from rfl) kf21 (fun _ h9 => h9) (fun _ h => mw_x h) rfl dX2_turnSeeAlso_94 ?_
              refine g_iload_n S dX2_turnSeeAlso_97 rfl 2 rfl ?_
              refine g_iald S xK (n := 24) (fun _ h => mw_al h) (by omega) (by decide) dX2_turnSeeAlso_98 ?_
              refine g_callS S xK (As := [.int (iI ((upI al u (al u ^^^ 2 ^ o.toNat) u : Nat) : Int))]) (st := []) (stk' := [.int (iI ((pop (upI al u (al u ^^^ 2 ^ o.toNat) u) 24 : Nat) : Int))]) (Wp' := MW E am 0 pg n on se (upI al u (al u ^^^ 2 ^ o.toNat))) (m_J6_bitCount_0f7a4 l E (MW E am 0 pg n on se (upI al u (al u ^^^ 2 ^ o.toNat))) (upI al u (al u ^^^ 2 ^ o.toNat) u) (by rw [upI_s]; exact lt24 hn hxl)) (va_cwS 1 S.2.2.2.2 gX2_turnSeeAlso_J6_bitCount_0f7a4 rfl rfl rfl (by decide +kernel) ⟨Nat.le_of_ble_eq_true rfl, Nat.le_of_ble_eq_true rfl⟩) rfl rfl rfl (Nat.le_of_ble_eq_true rfl) ⟨Nat.le_of_ble_eq_true rfl, Nat.le_of_ble_eq_true rfl⟩ (fun _ q => q.elim) (fun _ h => h) (fun _ _ _ h _ _ => h) dX2_turnSeeAlso_99 ?_
              rw [show ((pop (al u ^^^ 2 ^ o.toNat) 24 : Nat) : Int) = ((pop (upI al u (al u ^^^ 2 ^ o.toNat) u) 24 : Nat) : Int) from by rw [upI_s]]
              exact g_iret S xr xlk dX2_turnSeeAlso_102 (fun _ h => h)
            · skip
              exact absurd c72 (by omega)
        · skip
          refine g_iconst S dX2_turnSeeAlso_52 ?_
          refine g_goto S (tgt := 57) dX2_turnSeeAlso_53 (by decide) ?_
          refine g_istore_n S (lv' := [(3, .int (iI 1)), (0, .ref (am 0)), (1, .int (iI u)), (2, .int (iI o))]) dX2_turnSeeAlso_57 rfl (Nat.le_of_ble_eq_true rfl) rfl ?_
          refine g_iload_n S dX2_turnSeeAlso_58 rfl 0 rfl ?_
          refine g_if_ne S (tgt := 81) dX2_turnSeeAlso_59 (by decide) (by omega) (fun c59 => ?_) (fun c59 => ?_)
          · skip
            refine g_aload_n S dX2_turnSeeAlso_81 rfl 1 rfl ?_
            refine g_get S xK (ref := "BookIndexModel") hin2 5 (by decide) (show vwCl[2]? = some (RX2, TX2, 6) from rfl) kf21 (fun _ h9 => h9) (fun _ h => mw_x h) rfl dX2_turnSeeAlso_82 ?_
            refine g_iload_n S dX2_turnSeeAlso_85 rfl 2 rfl ?_
            refine g_dup2 S dX2_turnSeeAlso_86 rfl rfl ?_
            refine g_iald S xK (n := 24) (fun _ h => mw_al h) (by omega) (by decide) dX2_turnSeeAlso_87 ?_
            refine g_iconst S dX2_turnSeeAlso_88 ?_
            refine g_iload_n S dX2_turnSeeAlso_89 rfl 3 rfl ?_
            refine g_ishl S (z := (iI ((2 ^ o.toNat : Nat) : Int))) dX2_turnSeeAlso_90 (iI_shl1 (by omega)) ?_
            refine g_ixor S (z := (iI ((al u ^^^ 2 ^ o.toNat : Nat) : Int))) dX2_turnSeeAlso_91 (iI_xor _ _) ?_
            refine g_iast S xK (Wp' := MW E am 0 pg n on se (upI al u (al u ^^^ 2 ^ o.toNat))) (n := 24) (fun _ h => mw_al h) (by omega) (by decide) (am_in (by omega)) (fun _ _ h hv _ oq => mw_sAl hj h hv oq) dX2_turnSeeAlso_92 ?_
            refine g_aload_n S dX2_turnSeeAlso_93 rfl 1 rfl ?_
            refine g_get S xK (ref := "BookIndexModel") hin2 5 (by decide) (show vwCl[2]? = some (RX2, TX2, 6) from rfl) kf21 (fun _ h9 => h9) (fun _ h => mw_x h) rfl dX2_turnSeeAlso_94 ?_
            refine g_iload_n S dX2_turnSeeAlso_97 rfl 2 rfl ?_
            refine g_iald S xK (n := 24) (fun _ h => mw_al h) (by omega) (by decide) dX2_turnSeeAlso_98 ?_
            refine g_callS S xK (As := [.int (iI ((upI al u (al u ^^^ 2 ^ o.toNat) u : Nat) : Int))]) (st := []) (stk' := [.int (iI ((pop (upI al u (al u ^^^ 2 ^ o.toNat) u) 24 : Nat) : Int))]) (Wp' := MW E am 0 pg n on se (upI al u (al u ^^^ 2 ^ o.toNat))) (m_J6_bitCount_0f7a4 l E (MW E am 0 pg n on se (upI al u (al u ^^^ 2 ^ o.toNat))) (upI al u (al u ^^^ 2 ^ o.toNat) u) (by rw [upI_s]; exact lt24 hn hxl)) (va_cwS 1 S.2.2.2.2 gX2_turnSeeAlso_J6_bitCount_0f7a4 rfl rfl rfl (by decide +kernel) ⟨Nat.le_of_ble_eq_true rfl, Nat.le_of_ble_eq_true rfl⟩) rfl rfl rfl (Nat.le_of_ble_eq_true rfl) ⟨Nat.le_of_ble_eq_true rfl, Nat.le_of_ble_eq_true rfl⟩ (fun _ q => q.elim) (fun _ h => h) (fun _ _ _ h _ _ => h) dX2_turnSeeAlso_99 ?_
            rw [show ((pop (al u ^^^ 2 ^ o.toNat) 24 : Nat) : Int) = ((pop (upI al u (al u ^^^ 2 ^ o.toNat) u) 24 : Nat) : Int) from by rw [upI_s]]
            exact g_iret S xr xlk dX2_turnSeeAlso_102 (fun _ h => h)
          · skip
            exact absurd c59 (by decide)
      · skip
        exact absurd c29 (by omega)
    · skip
      exact absurd c18 (by rw [pI_t (P := 0 ≤ o ∧ o ≤ n - 1) (by omega)]; decide)
set_option maxHeartbeats 4000000 in
set_option maxRecDepth 100000 in
theorem m_X2_turnSeeAlsoE (l : Launch) (E : EN) {am : Int → Nat} (hj : INM am) (th pg n : Int) (on se : Int → Int) (al : Int → Nat) (u o : Int) (hh : u < 0 ∨ n ≤ u) (hr : -2147483648 ≤ u ∧ u ≤ 2147483647) (hn : 0 ≤ n ∧ n ≤ 24) : Met l yX2_turnSeeAlso wsX2_turnSeeAlso ({ frames := 2, cells := 0, slots := 0, locals := 43 }) (CI E [.ref (am 0), .int (iI u), .int (iI o)] (MW E am th pg n on se al)) (QW (some (.int (iI 0))) (MW E am 1 pg n on se al) (AM am)) 0 0 (AM am) := by
  refine g_met (cc := cX2_turnSeeAlso) (maxL := 4) (ret := (some .int)) (lv := [(0, .ref (am 0)), (1, .int (iI u)), (2, .int (iI o))]) (by decide) rfl (Nat.le_of_ble_eq_true rfl) rfl ?_
  intro xp xe xs xm xa xb xh xc S xK xr xlk xin
  have kf24 := S.2.2.2.2 (.fieldLink RX2 24 "BookIndexModel" "thrown" "I") (by decide +kernel)
  have hin2 : ∀ w ∈ wsX20, w ∈ wsX2_turnSeeAlso := by decide +kernel
  refine g_aload_n S dX2_turnSeeAlso_0 rfl 0 rfl ?_
  refine g_iconst S dX2_turnSeeAlso_1 ?_
  refine g_put S xK (Wp' := MW E am 0 pg n on se al) (ref := "BookIndexModel") (ty := .int) hin2 tyX2 tyX2_ok nmX2 0 (by decide) (show vwCl[2]? = some (RX2, TX2, 6) from rfl) kf24 (fun _ h9 => h9) rfl (by decide +kernel) rfl rfl (fun _ h => mw_x h) (Nat.le_of_ble_eq_true rfl) (am_in (by omega)) (fun _ _ h hv _ oq => mw_sX hj h hv oq) dX2_turnSeeAlso_2 ?_
  refine g_aload_n S dX2_turnSeeAlso_5 rfl 0 rfl ?_
  refine g_iload_n S dX2_turnSeeAlso_6 rfl 1 rfl ?_
  refine g_callV S xK (As := [.int (iI u)]) (st := []) (stk' := [.int (iI (pI (0 ≤ u ∧ u ≤ n - 1)))]) (Wp' := MW E am 0 pg n on se al) (r := (RX2, TX2, 6)) (m_X2_isHeading l E hj 0 pg n on se al u (by omega) hn) (cwV 1 S.2.2.2.2 gX2_turnSeeAlso_X2_isHeading rfl rfl rfl (by decide +kernel) ⟨Nat.le_of_ble_eq_true rfl, Nat.le_of_ble_eq_true rfl⟩) rfl rfl rfl rfl (Nat.le_of_ble_eq_true rfl) ⟨Nat.le_of_ble_eq_true rfl, Nat.le_of_ble_eq_true rfl⟩ (fun _ q => q.elim) (fun _ h => mw_x h) (fun _ h => h) (fun _ _ _ h _ _ => h) dX2_turnSeeAlso_7 ?_
  have z10 := pI_b (0 ≤ u ∧ u ≤ n - 1)
  refine g_if_eq S (tgt := 21) dX2_turnSeeAlso_10 (by decide) (by omega) (fun c10 => ?_) (fun c10 => ?_)
  · skip
    refine g_aload_n S dX2_turnSeeAlso_21 rfl 0 rfl ?_
    refine g_iconst S dX2_turnSeeAlso_22 ?_
    refine g_callV S xK (As := [.int (iI 1)]) (st := []) (stk' := [.int (iI 0)]) (Wp' := MW E am 1 pg n on se al) (r := (RX2, TX2, 6)) (m_X2_no l E hj 0 pg n on se al 1 ) (cwV 1 S.2.2.2.2 gX2_turnSeeAlso_X2_no rfl rfl rfl (by decide +kernel) ⟨Nat.le_of_ble_eq_true rfl, Nat.le_of_ble_eq_true rfl⟩) rfl rfl rfl rfl (Nat.le_of_ble_eq_true rfl) ⟨Nat.le_of_ble_eq_true rfl, Nat.le_of_ble_eq_true rfl⟩ (fun _ q => q) (fun _ h => mw_x h) (fun _ h => h) (fun _ _ _ h _ _ => h) dX2_turnSeeAlso_23 ?_
    exact g_iret S xr xlk dX2_turnSeeAlso_26 (fun _ h => h)
  · skip
    exact absurd c10 (fun z => z (pI_f (P := 0 ≤ u ∧ u ≤ n - 1) (by omega)))
set_option maxHeartbeats 4000000 in
set_option maxRecDepth 100000 in
theorem m_X2_turnSeeAlsoF (l : Launch) (E : EN) {am : Int → Nat} (hj : INM am) (th pg n : Int) (on se : Int → Int) (al : Int → Nat) (u o : Int) (hh : 0 ≤ u ∧ u < n) (hn : 0 ≤ n ∧ n ≤ 24) (ho : o < 0 ∨ n ≤ o) (hr : -2147483648 ≤ o ∧ o ≤ 2147483647) : Met l yX2_turnSeeAlso wsX2_turnSeeAlso ({ frames := 2, cells := 0, slots := 0, locals := 43 }) (CI E [.ref (am 0), .int (iI u), .int (iI o)] (MW E am th pg n on se al)) (QW (some (.int (iI 0))) (MW E am 1 pg n on se al) (AM am)) 0 0 (AM am) := by
  refine g_met (cc := cX2_turnSeeAlso) (maxL := 4) (ret := (some .int)) (lv := [(0, .ref (am 0)), (1, .int (iI u)), (2, .int (iI o))]) (by decide) rfl (Nat.le_of_ble_eq_true rfl) rfl ?_
  intro xp xe xs xm xa xb xh xc S xK xr xlk xin
  have kf24 := S.2.2.2.2 (.fieldLink RX2 24 "BookIndexModel" "thrown" "I") (by decide +kernel)
  have hin2 : ∀ w ∈ wsX20, w ∈ wsX2_turnSeeAlso := by decide +kernel
  refine g_aload_n S dX2_turnSeeAlso_0 rfl 0 rfl ?_
  refine g_iconst S dX2_turnSeeAlso_1 ?_
  refine g_put S xK (Wp' := MW E am 0 pg n on se al) (ref := "BookIndexModel") (ty := .int) hin2 tyX2 tyX2_ok nmX2 0 (by decide) (show vwCl[2]? = some (RX2, TX2, 6) from rfl) kf24 (fun _ h9 => h9) rfl (by decide +kernel) rfl rfl (fun _ h => mw_x h) (Nat.le_of_ble_eq_true rfl) (am_in (by omega)) (fun _ _ h hv _ oq => mw_sX hj h hv oq) dX2_turnSeeAlso_2 ?_
  refine g_aload_n S dX2_turnSeeAlso_5 rfl 0 rfl ?_
  refine g_iload_n S dX2_turnSeeAlso_6 rfl 1 rfl ?_
  refine g_callV S xK (As := [.int (iI u)]) (st := []) (stk' := [.int (iI (pI (0 ≤ u ∧ u ≤ n - 1)))]) (Wp' := MW E am 0 pg n on se al) (r := (RX2, TX2, 6)) (m_X2_isHeading l E hj 0 pg n on se al u (by omega) hn) (cwV 1 S.2.2.2.2 gX2_turnSeeAlso_X2_isHeading rfl rfl rfl (by decide +kernel) ⟨Nat.le_of_ble_eq_true rfl, Nat.le_of_ble_eq_true rfl⟩) rfl rfl rfl rfl (Nat.le_of_ble_eq_true rfl) ⟨Nat.le_of_ble_eq_true rfl, Nat.le_of_ble_eq_true rfl⟩ (fun _ q => q.elim) (fun _ h => mw_x h) (fun _ h => h) (fun _ _ _ h _ _ => h) dX2_turnSeeAlso_7 ?_
  have z10 := pI_b (0 ≤ u ∧ u ≤ n - 1)
  refine g_if_eq S (tgt := 21) dX2_turnSeeAlso_10 (by decide) (by omega) (fun c10 => ?_) (fun c10 => ?_)
  · skip
    exact absurd c10 (by rw [pI_t (P := 0 ≤ u ∧ u ≤ n - 1) (by omega)]; decide)
  · skip
    refine g_aload_n S dX2_turnSeeAlso_13 rfl 0 rfl ?_
    refine g_iload_n S dX2_turnSeeAlso_14 rfl 2 rfl ?_
    refine g_callV S xK (As := [.int (iI o)]) (st := []) (stk' := [.int (iI (pI (0 ≤ o ∧ o ≤ n - 1)))]) (Wp' := MW E am 0 pg n on se al) (r := (RX2, TX2, 6)) (m_X2_isHeading l E hj 0 pg n on se al o (by omega) hn) (cwV 1 S.2.2.2.2 gX2_turnSeeAlso_X2_isHeading rfl rfl rfl (by decide +kernel) ⟨Nat.le_of_ble_eq_true rfl, Nat.le_of_ble_eq_true rfl⟩) rfl rfl rfl rfl (Nat.le_of_ble_eq_true rfl) ⟨Nat.le_of_ble_eq_true rfl, Nat.le_of_ble_eq_true rfl⟩ (fun _ q => q.elim) (fun _ h => mw_x h) (fun _ h => h) (fun _ _ _ h _ _ => h) dX2_turnSeeAlso_15 ?_
    have z18 := pI_b (0 ≤ o ∧ o ≤ n - 1)
    refine g_if_ne S (tgt := 27) dX2_turnSeeAlso_18 (by decide) (by omega) (fun c18 => ?_) (fun c18 => ?_)
    · skip
      exact absurd c18 (fun z => z (pI_f (P := 0 ≤ o ∧ o ≤ n - 1) (by omega)))
    · skip
      refine g_aload_n S dX2_turnSeeAlso_21 rfl 0 rfl ?_
      refine g_iconst S dX2_turnSeeAlso_22 ?_
      refine g_callV S xK (As := [.int (iI 1)]) (st := []) (stk' := [.int (iI 0)]) (Wp' := MW E am 1 pg n on se al) (r := (RX2, TX2, 6)) (m_X2_no l E hj 0 pg n on se al 1 ) (cwV 1 S.2.2.2.2 gX2_turnSeeAlso_X2_no rfl rfl rfl (by decide +kernel) ⟨Nat.le_of_ble_eq_true rfl, Nat.le_of_ble_eq_true rfl⟩) rfl rfl rfl rfl (Nat.le_of_ble_eq_true rfl) ⟨Nat.le_of_ble_eq_true rfl, Nat.le_of_ble_eq_true rfl⟩ (fun _ q => q) (fun _ h => mw_x h) (fun _ h => h) (fun _ _ _ h _ _ => h) dX2_turnSeeAlso_23 ?_
      exact g_iret S xr xlk dX2_turnSeeAlso_26 (fun _ h => h)
set_option maxHeartbeats 4000000 in
set_option maxRecDepth 100000 in
theorem m_X2_turnSeeAlsoG (l : Launch) (E : EN) {am : Int → Nat} (hj : INM am) (th pg n : Int) (on se : Int → Int) (al : Int → Nat) (u o : Int) (hh : 0 ≤ u ∧ u < n) (hn : 0 ≤ n ∧ n ≤ 24) (ho : o = u) : Met l yX2_turnSeeAlso wsX2_turnSeeAlso ({ frames := 2, cells := 0, slots := 0, locals := 43 }) (CI E [.ref (am 0), .int (iI u), .int (iI o)] (MW E am th pg n on se al)) (QW (some (.int (iI 0))) (MW E am 2 pg n on se al) (AM am)) 0 0 (AM am) := by
  refine g_met (cc := cX2_turnSeeAlso) (maxL := 4) (ret := (some .int)) (lv := [(0, .ref (am 0)), (1, .int (iI u)), (2, .int (iI o))]) (by decide) rfl (Nat.le_of_ble_eq_true rfl) rfl ?_
  intro xp xe xs xm xa xb xh xc S xK xr xlk xin
  have kf24 := S.2.2.2.2 (.fieldLink RX2 24 "BookIndexModel" "thrown" "I") (by decide +kernel)
  have hin2 : ∀ w ∈ wsX20, w ∈ wsX2_turnSeeAlso := by decide +kernel
  refine g_aload_n S dX2_turnSeeAlso_0 rfl 0 rfl ?_
  refine g_iconst S dX2_turnSeeAlso_1 ?_
  refine g_put S xK (Wp' := MW E am 0 pg n on se al) (ref := "BookIndexModel") (ty := .int) hin2 tyX2 tyX2_ok nmX2 0 (by decide) (show vwCl[2]? = some (RX2, TX2, 6) from rfl) kf24 (fun _ h9 => h9) rfl (by decide +kernel) rfl rfl (fun _ h => mw_x h) (Nat.le_of_ble_eq_true rfl) (am_in (by omega)) (fun _ _ h hv _ oq => mw_sX hj h hv oq) dX2_turnSeeAlso_2 ?_
  refine g_aload_n S dX2_turnSeeAlso_5 rfl 0 rfl ?_
  refine g_iload_n S dX2_turnSeeAlso_6 rfl 1 rfl ?_
  refine g_callV S xK (As := [.int (iI u)]) (st := []) (stk' := [.int (iI (pI (0 ≤ u ∧ u ≤ n - 1)))]) (Wp' := MW E am 0 pg n on se al) (r := (RX2, TX2, 6)) (m_X2_isHeading l E hj 0 pg n on se al u (by omega) hn) (cwV 1 S.2.2.2.2 gX2_turnSeeAlso_X2_isHeading rfl rfl rfl (by decide +kernel) ⟨Nat.le_of_ble_eq_true rfl, Nat.le_of_ble_eq_true rfl⟩) rfl rfl rfl rfl (Nat.le_of_ble_eq_true rfl) ⟨Nat.le_of_ble_eq_true rfl, Nat.le_of_ble_eq_true rfl⟩ (fun _ q => q.elim) (fun _ h => mw_x h) (fun _ h => h) (fun _ _ _ h _ _ => h) dX2_turnSeeAlso_7 ?_
  have z10 := pI_b (0 ≤ u ∧ u ≤ n - 1)
  refine g_if_eq S (tgt := 21) dX2_turnSeeAlso_10 (by decide) (by omega) (fun c10 => ?_) (fun c10 => ?_)
  · skip
    exact absurd c10 (by rw [pI_t (P := 0 ≤ u ∧ u ≤ n - 1) (by omega)]; decide)
  · skip
    refine g_aload_n S dX2_turnSeeAlso_13 rfl 0 rfl ?_
    refine g_iload_n S dX2_turnSeeAlso_14 rfl 2 rfl ?_
    refine g_callV S xK (As := [.int (iI o)]) (st := []) (stk' := [.int (iI (pI (0 ≤ o ∧ o ≤ n - 1)))]) (Wp' := MW E am 0 pg n on se al) (r := (RX2, TX2, 6)) (m_X2_isHeading l E hj 0 pg n on se al o (by omega) hn) (cwV 1 S.2.2.2.2 gX2_turnSeeAlso_X2_isHeading rfl rfl rfl (by decide +kernel) ⟨Nat.le_of_ble_eq_true rfl, Nat.le_of_ble_eq_true rfl⟩) rfl rfl rfl rfl (Nat.le_of_ble_eq_true rfl) ⟨Nat.le_of_ble_eq_true rfl, Nat.le_of_ble_eq_true rfl⟩ (fun _ q => q.elim) (fun _ h => mw_x h) (fun _ h => h) (fun _ _ _ h _ _ => h) dX2_turnSeeAlso_15 ?_
    have z18 := pI_b (0 ≤ o ∧ o ≤ n - 1)
    refine g_if_ne S (tgt := 27) dX2_turnSeeAlso_18 (by decide) (by omega) (fun c18 => ?_) (fun c18 => ?_)
    · skip
      refine g_iload_n S dX2_turnSeeAlso_27 rfl 1 rfl ?_
      refine g_iload_n S dX2_turnSeeAlso_28 rfl 2 rfl ?_
      refine g_icmp_ne S (tgt := 38) dX2_turnSeeAlso_29 (by decide) (by omega) (fun c29 => ?_) (fun c29 => ?_)
      · skip
        exact absurd c29 (by omega)
      · skip
        refine g_aload_n S dX2_turnSeeAlso_32 rfl 0 rfl ?_
        refine g_iconst S dX2_turnSeeAlso_33 ?_
        refine g_callV S xK (As := [.int (iI 2)]) (st := []) (stk' := [.int (iI 0)]) (Wp' := MW E am 2 pg n on se al) (r := (RX2, TX2, 6)) (m_X2_no l E hj 0 pg n on se al 2 ) (cwV 1 S.2.2.2.2 gX2_turnSeeAlso_X2_no rfl rfl rfl (by decide +kernel) ⟨Nat.le_of_ble_eq_true rfl, Nat.le_of_ble_eq_true rfl⟩) rfl rfl rfl rfl (Nat.le_of_ble_eq_true rfl) ⟨Nat.le_of_ble_eq_true rfl, Nat.le_of_ble_eq_true rfl⟩ (fun _ q => q) (fun _ h => mw_x h) (fun _ h => h) (fun _ _ _ h _ _ => h) dX2_turnSeeAlso_34 ?_
        exact g_iret S xr xlk dX2_turnSeeAlso_37 (fun _ h => h)
    · skip
      exact absurd c18 (by rw [pI_t (P := 0 ≤ o ∧ o ≤ n - 1) (by omega)]; decide)
set_option maxHeartbeats 4000000 in
set_option maxRecDepth 100000 in
theorem m_X2_turnSeeAlsoH (l : Launch) (E : EN) {am : Int → Nat} (hj : INM am) (th pg n : Int) (on se : Int → Int) (al : Int → Nat) (sp : Int → SpT) (u o : Int) (hh : 0 ≤ u ∧ u < n) (hn : 0 ≤ n ∧ n ≤ 24) (ho : 0 ≤ o ∧ o < n ∧ o ≠ u) (hgr : GR se al n) (hp4 : pop (al u) 24 ≤ 4) (hc : 4 < pop (al u ^^^ 2 ^ o.toNat) 24) : Met l yX2_turnSeeAlso wsX2_turnSeeAlso ({ frames := 2, cells := 0, slots := 0, locals := 43 }) (CI E [.ref (am 0), .int (iI u), .int (iI o)] (MW E am th pg n on se al)) (QW (some (.int (iI 0))) (MW E am 3 pg n on se al) (AM am)) 0 0 (AM am) := by
  refine g_met (cc := cX2_turnSeeAlso) (maxL := 4) (ret := (some .int)) (lv := [(0, .ref (am 0)), (1, .int (iI u)), (2, .int (iI o))]) (by decide) rfl (Nat.le_of_ble_eq_true rfl) rfl ?_
  intro xp xe xs xm xa xb xh xc S xK xr xlk xin
  have kf24 := S.2.2.2.2 (.fieldLink RX2 24 "BookIndexModel" "thrown" "I") (by decide +kernel)
  have kf21 := S.2.2.2.2 (.fieldLink RX2 21 "BookIndexModel" "also" "[I") (by decide +kernel)
  have hin2 : ∀ w ∈ wsX20, w ∈ wsX2_turnSeeAlso := by decide +kernel
  have hxl : al u ^^^ 2 ^ o.toNat < 2 ^ n.toNat := Nat.xor_lt_two_pow (hgr.2 u (by omega) (by omega)) (Nat.pow_lt_pow_right (by decide) (by omega))
  have pxo := (pop_xor (al u) o.toNat 24).2 (by omega)
  have pl4 := pop_le (al u) 24
  refine g_aload_n S dX2_turnSeeAlso_0 rfl 0 rfl ?_
  refine g_iconst S dX2_turnSeeAlso_1 ?_
  refine g_put S xK (Wp' := MW E am 0 pg n on se al) (ref := "BookIndexModel") (ty := .int) hin2 tyX2 tyX2_ok nmX2 0 (by decide) (show vwCl[2]? = some (RX2, TX2, 6) from rfl) kf24 (fun _ h9 => h9) rfl (by decide +kernel) rfl rfl (fun _ h => mw_x h) (Nat.le_of_ble_eq_true rfl) (am_in (by omega)) (fun _ _ h hv _ oq => mw_sX hj h hv oq) dX2_turnSeeAlso_2 ?_
  refine g_aload_n S dX2_turnSeeAlso_5 rfl 0 rfl ?_
  refine g_iload_n S dX2_turnSeeAlso_6 rfl 1 rfl ?_
  refine g_callV S xK (As := [.int (iI u)]) (st := []) (stk' := [.int (iI (pI (0 ≤ u ∧ u ≤ n - 1)))]) (Wp' := MW E am 0 pg n on se al) (r := (RX2, TX2, 6)) (m_X2_isHeading l E hj 0 pg n on se al u (by omega) hn) (cwV 1 S.2.2.2.2 gX2_turnSeeAlso_X2_isHeading rfl rfl rfl (by decide +kernel) ⟨Nat.le_of_ble_eq_true rfl, Nat.le_of_ble_eq_true rfl⟩) rfl rfl rfl rfl (Nat.le_of_ble_eq_true rfl) ⟨Nat.le_of_ble_eq_true rfl, Nat.le_of_ble_eq_true rfl⟩ (fun _ q => q.elim) (fun _ h => mw_x h) (fun _ h => h) (fun _ _ _ h _ _ => h) dX2_turnSeeAlso_7 ?_
  have z10 := pI_b (0 ≤ u ∧ u ≤ n - 1)
  refine g_if_eq S (tgt := 21) dX2_turnSeeAlso_10 (by decide) (by omega) (fun c10 => ?_) (fun c10 => ?_)
  · skip
    exact absurd c10 (by rw [pI_t (P := 0 ≤ u ∧ u ≤ n - 1) (by omega)]; decide)
  · skip
    refine g_aload_n S dX2_turnSeeAlso_13 rfl 0 rfl ?_
    refine g_iload_n S dX2_turnSeeAlso_14 rfl 2 rfl ?_
    refine g_callV S xK (As := [.int (iI o)]) (st := []) (stk' := [.int (iI (pI (0 ≤ o ∧ o ≤ n - 1)))]) (Wp' := MW E am 0 pg n on se al) (r := (RX2, TX2, 6)) (m_X2_isHeading l E hj 0 pg n on se al o (by omega) hn) (cwV 1 S.2.2.2.2 gX2_turnSeeAlso_X2_isHeading rfl rfl rfl (by decide +kernel) ⟨Nat.le_of_ble_eq_true rfl, Nat.le_of_ble_eq_true rfl⟩) rfl rfl rfl rfl (Nat.le_of_ble_eq_true rfl) ⟨Nat.le_of_ble_eq_true rfl, Nat.le_of_ble_eq_true rfl⟩ (fun _ q => q.elim) (fun _ h => mw_x h) (fun _ h => h) (fun _ _ _ h _ _ => h) dX2_turnSeeAlso_15 ?_
    have z18 := pI_b (0 ≤ o ∧ o ≤ n - 1)
    refine g_if_ne S (tgt := 27) dX2_turnSeeAlso_18 (by decide) (by omega) (fun c18 => ?_) (fun c18 => ?_)
    · skip
      refine g_iload_n S dX2_turnSeeAlso_27 rfl 1 rfl ?_
      refine g_iload_n S dX2_turnSeeAlso_28 rfl 2 rfl ?_
      refine g_icmp_ne S (tgt := 38) dX2_turnSeeAlso_29 (by decide) (by omega) (fun c29 => ?_) (fun c29 => ?_)
      · skip
        refine g_aload_n S dX2_turnSeeAlso_38 rfl 0 rfl ?_
        refine g_get S xK (ref := "BookIndexModel") hin2 5 (by decide) (show vwCl[2]? = some (RX2, TX2, 6) from rfl) kf21 (fun _ h9 => h9) (fun _ h => mw_x h) rfl dX2_turnSeeAlso_39 ?_
        refine g_iload_n S dX2_turnSeeAlso_42 rfl 1 rfl ?_
        refine g_iald S xK (n := 24) (fun _ h => mw_al h) (by omega) (by decide) dX2_turnSeeAlso_43 ?_
        refine g_iload_n S dX2_turnSeeAlso_44 rfl 2 rfl ?_
        refine g_ishr S (z := (iI ((al u : Nat) : Int) >>> (iI o &&& 31))) dX2_turnSeeAlso_45 (rfl) ?_
        refine g_iconst S dX2_turnSeeAlso_46 ?_
        refine g_iand S (z := (iI (pI ((al u).testBit o.toNat = true)))) dX2_turnSeeAlso_47 (iI_bit (lt24 hn (hgr.2 u (by omega) (by omega))) (by omega)) ?_
        refine g_iconst S dX2_turnSeeAlso_48 ?_
        have z49 := pI_b ((al u).testBit o.toNat = true)
        refine g_icmp_ne S (tgt := 56) dX2_turnSeeAlso_49 (by decide) (by omega) (fun c49 => ?_) (fun c49 => ?_)
        · skip
          refine g_iconst S dX2_turnSeeAlso_56 ?_
          refine g_istore_n S (lv' := [(3, .int (iI 0)), (0, .ref (am 0)), (1, .int (iI u)), (2, .int (iI o))]) dX2_turnSeeAlso_57 rfl (Nat.le_of_ble_eq_true rfl) rfl ?_
          refine g_iload_n S dX2_turnSeeAlso_58 rfl 0 rfl ?_
          refine g_if_ne S (tgt := 81) dX2_turnSeeAlso_59 (by decide) (by omega) (fun c59 => ?_) (fun c59 => ?_)
          · skip
            exact absurd c59 (by decide)
          · skip
            refine g_aload_n S dX2_turnSeeAlso_62 rfl 1 rfl ?_
            refine g_get S xK (ref := "BookIndexModel") hin2 5 (by decide) (show vwCl[2]? = some (RX2, TX2, 6) from rfl) kf21 (fun _ h9 => h9) (fun _ h => mw_x h) rfl dX2_turnSeeAlso_63 ?_
            refine g_iload_n S dX2_turnSeeAlso_66 rfl 2 rfl ?_
            refine g_iald S xK (n := 24) (fun _ h => mw_al h) (by omega) (by decide) dX2_turnSeeAlso_67 ?_
            refine g_callS S xK (As := [.int (iI ((al u : Nat) : Int))]) (st := []) (stk' := [.int (iI ((pop (al u) 24 : Nat) : Int))]) (Wp' := MW E am 0 pg n on se al) (m_J6_bitCount_0f7a4 l E (MW E am 0 pg n on se al) (al u) (lt24 hn (hgr.2 u (by omega) (by omega)))) (va_cwS 1 S.2.2.2.2 gX2_turnSeeAlso_J6_bitCount_0f7a4 rfl rfl rfl (by decide +kernel) ⟨Nat.le_of_ble_eq_true rfl, Nat.le_of_ble_eq_true rfl⟩) rfl rfl rfl (Nat.le_of_ble_eq_true rfl) ⟨Nat.le_of_ble_eq_true rfl, Nat.le_of_ble_eq_true rfl⟩ (fun _ q => q.elim) (fun _ h => h) (fun _ _ _ h _ _ => h) dX2_turnSeeAlso_68 ?_
            refine g_iconst S dX2_turnSeeAlso_71 ?_
            have p72 := pxo.2 (pI_ne1 c49)
            refine g_icmp_ne S (tgt := 81) dX2_turnSeeAlso_72 (by decide) (by omega) (fun c72 => ?_) (fun c72 => ?_)
            · skip
              exact absurd c72 (by omega)
            · skip
              refine g_aload_n S dX2_turnSeeAlso_75 rfl 1 rfl ?_
              refine g_iconst S dX2_turnSeeAlso_76 ?_
              refine g_callV S xK (As := [.int (iI 3)]) (st := []) (stk' := [.int (iI 0)]) (Wp' := MW E am 3 pg n on se al) (r := (RX2, TX2, 6)) (m_X2_no l E hj 0 pg n on se al 3 ) (cwV 1 S.2.2.2.2 gX2_turnSeeAlso_X2_no rfl rfl rfl (by decide +kernel) ⟨Nat.le_of_ble_eq_true rfl, Nat.le_of_ble_eq_true rfl⟩) rfl rfl rfl rfl (Nat.le_of_ble_eq_true rfl) ⟨Nat.le_of_ble_eq_true rfl, Nat.le_of_ble_eq_true rfl⟩ (fun _ q => q) (fun _ h => mw_x h) (fun _ h => h) (fun _ _ _ h _ _ => h) dX2_turnSeeAlso_77 ?_
              exact g_iret S xr xlk dX2_turnSeeAlso_80 (fun _ h => h)
        · skip
          exact absurd c49 (fun z => by have y := pxo.1 (pI_eq1 z); omega)
      · skip
        exact absurd c29 (by omega)
    · skip
      exact absurd c18 (by rw [pI_t (P := 0 ≤ o ∧ o ≤ n - 1) (by omega)]; decide)
set_option maxHeartbeats 4000000 in
set_option maxRecDepth 100000 in
theorem m_X2_putIn (l : Launch) (E : EN) {am : Int → Nat} (hj : INM am) (th pg n : Int) (on se : Int → Int) (al : Int → Nat) (sp : Int → SpT) (q mn : Int) (hq : 1 ≤ q ∧ q ≤ pg + 1 ∧ 1 ≤ mn ∧ mn ≤ 100 ∧ pg + mn ≤ 300) (hn : 0 ≤ n ∧ n ≤ 24) (hpg : 1 ≤ pg ∧ pg ≤ 300) (hrl : RPS on sp n) (hsp : SPV sp n pg) (hon : ∀ k, on k = 0 ∨ on k = 1) : Met l yX2_putIn wsX2_putIn ({ frames := 2, cells := 0, slots := 0, locals := 48 }) (CI E [.ref (am 0), .int (iI q), .int (iI mn)] (MW E am th pg n on se al)) (QW (some (.int (iI (pg + mn)))) (fun H => ∃ oo : Int → Int, ((∀ k, oo k = 0 ∨ oo k = 1) ∧ ∀ h : Int, 0 ≤ h → h < n → ∀ r : Int, 0 ≤ r → r ≤ 301 → (oo (302 * h + r) = 1 ↔ PM (sp h) q mn r)) ∧ (∀ h : Int, n ≤ h → h < 24 → ∀ r : Int, 0 ≤ r → r ≤ 301 → oo (302 * h + r) = on (302 * h + r)) ∧ MW E am 0 (pg + mn) n oo se al H) (AM am)) 0 0 (AM am) := by
  refine g_met (cc := cX2_putIn) (maxL := 6) (ret := (some .int)) (lv := [(0, .ref (am 0)), (1, .int (iI q)), (2, .int (iI mn))]) (by decide) rfl (Nat.le_of_ble_eq_true rfl) rfl ?_
  intro xp xe xs xm xa xb xh xc S xK xr xlk xin
  have kf24 := S.2.2.2.2 (.fieldLink RX2 24 "BookIndexModel" "thrown" "I") (by decide +kernel)
  have kf9 := S.2.2.2.2 (.fieldLink RX2 9 "BookIndexModel" "pages" "I") (by decide +kernel)
  have kf27 := S.2.2.2.2 (.fieldLink RX2 27 "BookIndexModel" "headings" "I") (by decide +kernel)
  have hin2 : ∀ w ∈ wsX20, w ∈ wsX2_putIn := by decide +kernel
  refine g_aload_n S dX2_putIn_0 rfl 0 rfl ?_
  refine g_iconst S dX2_putIn_1 ?_
  refine g_put S xK (Wp' := MW E am 0 pg n on se al) (ref := "BookIndexModel") (ty := .int) hin2 tyX2 tyX2_ok nmX2 0 (by decide) (show vwCl[2]? = some (RX2, TX2, 6) from rfl) kf24 (fun _ h9 => h9) rfl (by decide +kernel) rfl rfl (fun _ h => mw_x h) (Nat.le_of_ble_eq_true rfl) (am_in (by omega)) (fun _ _ h hv _ oq => mw_sX hj h hv oq) dX2_putIn_2 ?_
  refine g_iload_n S dX2_putIn_5 rfl 1 rfl ?_
  refine g_iconst S dX2_putIn_6 ?_
  refine g_aload_n S dX2_putIn_7 rfl 0 rfl ?_
  refine g_get S xK (ref := "BookIndexModel") hin2 1 (by decide) (show vwCl[2]? = some (RX2, TX2, 6) from rfl) kf9 (fun _ h9 => h9) (fun _ h => mw_x h) rfl dX2_putIn_8 ?_
  refine g_iconst S dX2_putIn_11 ?_
  refine g_iadd S dX2_putIn_12 ?_
  refine g_callS S xK (As := [.int (iI q), .int (iI 1), .int (iI (pg + 1))]) (st := []) (stk' := [.int (iI (pI (1 ≤ q ∧ q ≤ pg + 1)))]) (Wp' := MW E am 0 pg n on se al) (m_X2_isIn l E (Wp := MW E am 0 pg n on se al) q 1 (pg + 1) (by omega)) (cwS 3 S.2.2.2.2 gX2_putIn_X2_isIn rfl rfl rfl (by decide +kernel) ⟨Nat.le_of_ble_eq_true rfl, Nat.le_of_ble_eq_true rfl⟩) rfl rfl rfl (Nat.le_of_ble_eq_true rfl) ⟨Nat.le_of_ble_eq_true rfl, Nat.le_of_ble_eq_true rfl⟩ (fun _ q => q.elim) (fun _ h => h) (fun _ _ _ h _ _ => h) dX2_putIn_13 ?_
  have z16 := pI_b (1 ≤ q ∧ q ≤ pg + 1)
  refine g_if_eq S (tgt := 29) dX2_putIn_16 (by decide) (by omega) (fun c16 => ?_) (fun c16 => ?_)
  · skip
    exact absurd c16 (by rw [pI_t (P := 1 ≤ q ∧ q ≤ pg + 1) (by omega)]; decide)
  · skip
    refine g_iload_n S dX2_putIn_19 rfl 2 rfl ?_
    refine g_iconst S dX2_putIn_20 ?_
    refine g_bipush S dX2_putIn_21 (by decide) ?_
    refine g_callS S xK (As := [.int (iI mn), .int (iI 1), .int (iI 100)]) (st := []) (stk' := [.int (iI (pI (1 ≤ mn ∧ mn ≤ 100)))]) (Wp' := MW E am 0 pg n on se al) (m_X2_isIn l E (Wp := MW E am 0 pg n on se al) mn 1 100 (by omega)) (cwS 3 S.2.2.2.2 gX2_putIn_X2_isIn rfl rfl rfl (by decide +kernel) ⟨Nat.le_of_ble_eq_true rfl, Nat.le_of_ble_eq_true rfl⟩) rfl rfl rfl (Nat.le_of_ble_eq_true rfl) ⟨Nat.le_of_ble_eq_true rfl, Nat.le_of_ble_eq_true rfl⟩ (fun _ q => q.elim) (fun _ h => h) (fun _ _ _ h _ _ => h) dX2_putIn_23 ?_
    have z26 := pI_b (1 ≤ mn ∧ mn ≤ 100)
    refine g_if_ne S (tgt := 35) dX2_putIn_26 (by decide) (by omega) (fun c26 => ?_) (fun c26 => ?_)
    · skip
      refine g_aload_n S dX2_putIn_35 rfl 0 rfl ?_
      refine g_get S xK (ref := "BookIndexModel") hin2 1 (by decide) (show vwCl[2]? = some (RX2, TX2, 6) from rfl) kf9 (fun _ h9 => h9) (fun _ h => mw_x h) rfl dX2_putIn_36 ?_
      refine g_iload_n S dX2_putIn_39 rfl 2 rfl ?_
      refine g_iadd S dX2_putIn_40 ?_
      refine g_sipush S dX2_putIn_41 (by decide) ?_
      refine g_icmp_le S (tgt := 53) dX2_putIn_44 (by decide) (by omega) (fun c44 => ?_) (fun c44 => ?_)
      · skip
        refine g_iconst S dX2_putIn_53 ?_
        refine g_istore_n S (lv' := [(3, .int (iI 0)), (0, .ref (am 0)), (1, .int (iI q)), (2, .int (iI mn))]) dX2_putIn_54 rfl (Nat.le_of_ble_eq_true rfl) rfl ?_
        have L55 : ∀ (nf : Nat) (o : Int) (oo : Int → Int), (0 ≤ o ∧ o ≤ n) → (∀ k, oo k = 0 ∨ oo k = 1) → (∀ h : Int, 0 ≤ h → h < o → ∀ r : Int, 0 ≤ r → r ≤ 301 → (oo (302 * h + r) = 1 ↔ PM (sp h) q mn r)) → (∀ h : Int, o ≤ h → h < 24 → ∀ r : Int, 0 ≤ r → r ≤ 301 → oo (302 * h + r) = on (302 * h + r)) → (n - o < (nf : Int)) → G xp l xe ({ frames := 2, cells := 0, slots := 0, locals := 48 }) xs xm xa xb xh xc 6 (AM am) 0 0 (MQ xb (QW (some (.int (iI (pg + mn)))) (fun H => ∃ oo : Int → Int, ((∀ k, oo k = 0 ∨ oo k = 1) ∧ ∀ h : Int, 0 ≤ h → h < n → ∀ r : Int, 0 ≤ r → r ≤ 301 → (oo (302 * h + r) = 1 ↔ PM (sp h) q mn r)) ∧ (∀ h : Int, n ≤ h → h < 24 → ∀ r : Int, 0 ≤ r → r ≤ 301 → oo (302 * h + r) = on (302 * h + r)) ∧ MW E am 0 (pg + mn) n oo se al H) (AM am)) xa xs 0 0 (AM am)) 55 [(0, .ref (am 0)), (1, .int (iI q)), (2, .int (iI mn)), (3, .int (iI o))] [] (MW E am 0 pg n oo se al) := by
          intro nf
          induction nf with
          | zero =>
            intro o oo ho hoo hlo hhi hmf
            exfalso
            omega
          | succ nf ihL55 =>
            intro o oo ho hoo hlo hhi hmf
            refine g_iload_n S dX2_putIn_55 rfl 3 rfl ?_
            refine g_aload_n S dX2_putIn_56 rfl 0 rfl ?_
            refine g_get S xK (ref := "BookIndexModel") hin2 2 (by decide) (show vwCl[2]? = some (RX2, TX2, 6) from rfl) kf27 (fun _ h9 => h9) (fun _ h => mw_x h) rfl dX2_putIn_57 ?_
            refine g_icmp_ge S (tgt := 143) dX2_putIn_60 (by decide) (by omega) (fun c60 => ?_) (fun c60 => ?_)
            · skip
              refine g_aload_n S dX2_putIn_143 rfl 0 rfl ?_
              refine g_dup S dX2_putIn_144 rfl ?_
              refine g_get S xK (ref := "BookIndexModel") hin2 1 (by decide) (show vwCl[2]? = some (RX2, TX2, 6) from rfl) kf9 (fun _ h9 => h9) (fun _ h => mw_x h) rfl dX2_putIn_145 ?_
              refine g_iload_n S dX2_putIn_148 rfl 2 rfl ?_
              refine g_iadd S dX2_putIn_149 ?_
              refine g_put S xK (Wp' := MW E am 0 (pg + mn) n oo se al) (ref := "BookIndexModel") (ty := .int) hin2 tyX2 tyX2_ok nmX2 1 (by decide) (show vwCl[2]? = some (RX2, TX2, 6) from rfl) kf9 (fun _ h9 => h9) rfl (by decide +kernel) rfl rfl (fun _ h => mw_x h) (Nat.le_of_ble_eq_true rfl) (am_in (by omega)) (fun _ _ h hv _ oq => mw_sX hj h hv oq) dX2_putIn_150 ?_
              refine g_aload_n S dX2_putIn_153 rfl 0 rfl ?_
              refine g_get S xK (ref := "BookIndexModel") hin2 1 (by decide) (show vwCl[2]? = some (RX2, TX2, 6) from rfl) kf9 (fun _ h9 => h9) (fun _ h => mw_x h) rfl dX2_putIn_154 ?_
              exact g_iret S xr xlk dX2_putIn_157 (fun _ h => ⟨oo, ⟨hoo, fun h_ h0 h1 => hlo h_ h0 (by omega)⟩, fun h_ h0 h1 r r0 r1 => hhi h_ (by omega) h1 r r0 r1, h⟩)
            · skip
              have L88 : ∀ (v : Int), (v = 0 ∨ v = 1) → (v = 1 ↔ cov (sp o) (q - 1) ∧ cov (sp o) q) → G xp l xe ({ frames := 2, cells := 0, slots := 0, locals := 48 }) xs xm xa xb xh xc 6 (AM am) 0 0 (MQ xb (QW (some (.int (iI (pg + mn)))) (fun H => ∃ oo : Int → Int, ((∀ k, oo k = 0 ∨ oo k = 1) ∧ ∀ h : Int, 0 ≤ h → h < n → ∀ r : Int, 0 ≤ r → r ≤ 301 → (oo (302 * h + r) = 1 ↔ PM (sp h) q mn r)) ∧ (∀ h : Int, n ≤ h → h < 24 → ∀ r : Int, 0 ≤ r → r ≤ 301 → oo (302 * h + r) = on (302 * h + r)) ∧ MW E am 0 (pg + mn) n oo se al H) (AM am)) xa xs 0 0 (AM am)) 88 [(0, .ref (am 0)), (1, .int (iI q)), (2, .int (iI mn)), (3, .int (iI o))] [.int (iI v)] (MW E am 0 pg n oo se al) := by
                intro v hv01 hvv
                refine g_istore S (lv' := [(4, .int (iI v)), (0, .ref (am 0)), (1, .int (iI q)), (2, .int (iI mn)), (3, .int (iI o))]) dX2_putIn_88 (Nat.le_of_ble_eq_true rfl) rfl ?_
                refine g_aload_n S dX2_putIn_90 rfl 1 rfl ?_
                refine g_get S xK (ref := "BookIndexModel") hin2 1 (by decide) (show vwCl[2]? = some (RX2, TX2, 6) from rfl) kf9 (fun _ h9 => h9) (fun _ h => mw_x h) rfl dX2_putIn_91 ?_
                refine g_istore S (lv' := [(5, .int (iI pg)), (4, .int (iI v)), (0, .ref (am 0)), (1, .int (iI q)), (2, .int (iI mn)), (3, .int (iI o))]) dX2_putIn_94 (Nat.le_of_ble_eq_true rfl) rfl ?_
                have L96 : ∀ (nf : Nat) (p : Int) (o2 : Int → Int), (q - 1 ≤ p ∧ p ≤ pg) → (o2 = shO oo (302 * o + p + mn + 1) (302 * o + pg + mn) mn) → (p - q + 1 < (nf : Int)) → G xp l xe ({ frames := 2, cells := 0, slots := 0, locals := 48 }) xs xm xa xb xh xc 6 (AM am) 0 0 (MQ xb (QW (some (.int (iI (pg + mn)))) (fun H => ∃ oo : Int → Int, ((∀ k, oo k = 0 ∨ oo k = 1) ∧ ∀ h : Int, 0 ≤ h → h < n → ∀ r : Int, 0 ≤ r → r ≤ 301 → (oo (302 * h + r) = 1 ↔ PM (sp h) q mn r)) ∧ (∀ h : Int, n ≤ h → h < 24 → ∀ r : Int, 0 ≤ r → r ≤ 301 → oo (302 * h + r) = on (302 * h + r)) ∧ MW E am 0 (pg + mn) n oo se al H) (AM am)) xa xs 0 0 (AM am)) 96 [(0, .ref (am 0)), (1, .int (iI q)), (2, .int (iI mn)), (3, .int (iI o)), (4, .int (iI v)), (5, .int (iI p))] [] (MW E am 0 pg n o2 se al) := by
                  intro nf
                  induction nf with
                  | zero =>
                    intro p o2 hp h2 hmf
                    exfalso
                    omega
                  | succ nf ihL96 =>
                    intro p o2 hp h2 hmf
                    refine g_iload S dX2_putIn_96 5 rfl ?_
                    refine g_iload_n S dX2_putIn_98 rfl 1 rfl ?_
                    refine g_icmp_lt S (tgt := 124) dX2_putIn_99 (by decide) (by omega) (fun c99 => ?_) (fun c99 => ?_)
                    · skip
                      have hfin : o2 = shO oo (302 * o + (q - 1) + mn + 1) (302 * o + pg + mn) mn := by rw [h2, show p = q - 1 by omega]
                      have hrow := in_row (hsp o (by omega) (by omega)).1 (oo := oo) (o := o) (q := q) (mn := mn) (v := v) (fun r r0 r1 => by rw [hhi o (by omega) (by omega) r r0 r1]; exact hrl o (by omega) (by omega) r r0 r1) (by omega) hvv
                      refine g_aload_n S dX2_putIn_124 rfl 0 rfl ?_
                      refine g_iload_n S dX2_putIn_125 rfl 3 rfl ?_
                      refine g_iload_n S dX2_putIn_126 rfl 1 rfl ?_
                      refine g_iload_n S dX2_putIn_127 rfl 1 rfl ?_
                      refine g_iload_n S dX2_putIn_128 rfl 2 rfl ?_
                      refine g_iadd S dX2_putIn_129 ?_
                      refine g_iconst S dX2_putIn_130 ?_
                      refine g_isub S dX2_putIn_131 ?_
                      refine g_iload S dX2_putIn_132 4 rfl ?_
                      refine g_callV S xK (As := [.int (iI o), .int (iI q), .int (iI (q + mn - 1)), .int (iI v)]) (st := []) (stk' := []) (Wp' := MW E am 0 pg n (ptO o2 (302 * o + q) (302 * o + (q + mn - 1)) v) se al) (r := (RX2, TX2, 6)) (m_X2_put l E hj 0 pg n o2 se al o q (q + mn - 1) v (by omega) (by omega) hv01) (cwV 4 S.2.2.2.2 gX2_putIn_X2_put rfl rfl rfl (by decide +kernel) ⟨Nat.le_of_ble_eq_true rfl, Nat.le_of_ble_eq_true rfl⟩) rfl rfl rfl rfl (Nat.le_of_ble_eq_true rfl) ⟨Nat.le_of_ble_eq_true rfl, Nat.le_of_ble_eq_true rfl⟩ (fun _ q => q) (fun _ h => mw_x h) (fun _ h => h) (fun _ _ _ h _ _ => h) dX2_putIn_134 ?_
                      refine g_iinc S (lv' := [(3, .int (iI (o + 1))), (0, .ref (am 0)), (1, .int (iI q)), (2, .int (iI mn)), (4, .int (iI v)), (5, .int (iI p))]) dX2_putIn_137 3 rfl (Nat.le_of_ble_eq_true rfl) rfl ?_
                      refine g_goto S (tgt := 55) dX2_putIn_140 (by decide) ?_
                      refine g_lv [1, 2, 3, 0] rfl ?_
                      exact ihL55 (o + 1) (ptO o2 (302 * o + q) (302 * o + (q + mn - 1)) v) (by omega) (ptO_01 (by rw [hfin]; exact shO_01 hoo) hv01) (fun h h0 h1 r r0 r1 => by by_cases e : h = o; (· rw [e, hfin]; exact hrow r r0 r1); (· rw [hfin, in_off oo (by omega) e ⟨r0, r1⟩]; exact hlo h h0 (by omega) r r0 r1)) (fun h h0 h1 r r0 r1 => by rw [hfin, in_off oo (by omega) (by omega) ⟨r0, r1⟩]; exact hhi h (by omega) h1 r r0 r1) (by omega)
                    · skip
                      have on2 : ∀ k, o2 k = 0 ∨ o2 k = 1 := by rw [h2]; exact shO_01 hoo
                      have g2 : o2 (302 * o + p) = oo (302 * o + p) := by rw [h2]; exact if_neg (by omega)
                      refine g_aload_n S dX2_putIn_102 rfl 0 rfl ?_
                      refine g_iload_n S dX2_putIn_103 rfl 3 rfl ?_
                      refine g_iload S dX2_putIn_104 5 rfl ?_
                      refine g_iload_n S dX2_putIn_106 rfl 2 rfl ?_
                      refine g_iadd S dX2_putIn_107 ?_
                      refine g_aload_n S dX2_putIn_108 rfl 0 rfl ?_
                      refine g_iload_n S dX2_putIn_109 rfl 3 rfl ?_
                      refine g_iload S dX2_putIn_110 5 rfl ?_
                      refine g_callV S xK (As := [.int (iI o), .int (iI p)]) (st := [.int (iI (p + mn)), .int (iI o), .ref (am 0)]) (stk' := [.int (iI (o2 (302 * o + p))), .int (iI (p + mn)), .int (iI o), .ref (am 0)]) (Wp' := MW E am 0 pg n o2 se al) (r := (RX2, TX2, 6)) (m_X2_has l E hj 0 pg n o2 se al o p (by omega) (by omega) on2) (cwV 2 S.2.2.2.2 gX2_putIn_X2_has rfl rfl rfl (by decide +kernel) ⟨Nat.le_of_ble_eq_true rfl, Nat.le_of_ble_eq_true rfl⟩) rfl rfl rfl rfl (Nat.le_of_ble_eq_true rfl) ⟨Nat.le_of_ble_eq_true rfl, Nat.le_of_ble_eq_true rfl⟩ (fun _ q => q.elim) (fun _ h => mw_x h) (fun _ h => h) (fun _ _ _ h _ _ => h) dX2_putIn_112 ?_
                      refine g_callV S xK (As := [.int (iI o), .int (iI (p + mn)), .int (iI (o2 (302 * o + p)))]) (st := []) (stk' := []) (Wp' := MW E am 0 pg n (upI o2 (302 * o + (p + mn)) (o2 (302 * o + p))) se al) (r := (RX2, TX2, 6)) (m_X2_let l E hj 0 pg n o2 se al o (p + mn) (o2 (302 * o + p)) (by omega) (by omega) (on2 _)) (cwV 3 S.2.2.2.2 gX2_putIn_X2_let rfl rfl rfl (by decide +kernel) ⟨Nat.le_of_ble_eq_true rfl, Nat.le_of_ble_eq_true rfl⟩) rfl rfl rfl rfl (Nat.le_of_ble_eq_true rfl) ⟨Nat.le_of_ble_eq_true rfl, Nat.le_of_ble_eq_true rfl⟩ (fun _ q => q) (fun _ h => mw_x h) (fun _ h => h) (fun _ _ _ h _ _ => h) dX2_putIn_115 ?_
                      refine g_iinc S (lv' := [(5, .int (iI (p + (-1)))), (0, .ref (am 0)), (1, .int (iI q)), (2, .int (iI mn)), (3, .int (iI o)), (4, .int (iI v))]) dX2_putIn_118 5 rfl (Nat.le_of_ble_eq_true rfl) rfl ?_
                      refine g_goto S (tgt := 96) dX2_putIn_121 (by decide) ?_
                      refine g_lv [1, 2, 3, 4, 5, 0] rfl ?_
                      exact ihL96 (p + (-1)) (upI o2 (302 * o + (p + mn)) (o2 (302 * o + p))) (by omega) (by have e := shO_d oo (a := 302 * o + p + mn + 1) (b := 302 * o + pg + mn) (m := mn) (by omega); rw [show 302 * o + p + mn + 1 - 1 = 302 * o + (p + mn) by omega, show 302 * o + (p + mn) - mn = 302 * o + p by omega] at e; rw [g2, h2, show 302 * o + (p + -1) + mn + 1 = 302 * o + (p + mn) by omega]; exact e) (by omega)
                refine g_lv [2, 3, 4, 5, 1, 0] rfl ?_
                exact L96 ((pg - q + 1) + 1).toNat pg oo (by omega) ((shO_0 _ _ (by omega)).symm) (by omega)
              refine g_aload_n S dX2_putIn_63 rfl 0 rfl ?_
              refine g_iload_n S dX2_putIn_64 rfl 3 rfl ?_
              refine g_iload_n S dX2_putIn_65 rfl 1 rfl ?_
              refine g_iconst S dX2_putIn_66 ?_
              refine g_isub S dX2_putIn_67 ?_
              refine g_callV S xK (As := [.int (iI o), .int (iI (q - 1))]) (st := []) (stk' := [.int (iI (oo (302 * o + (q - 1))))]) (Wp' := MW E am 0 pg n oo se al) (r := (RX2, TX2, 6)) (m_X2_has l E hj 0 pg n oo se al o (q - 1) (by omega) (by omega) hoo) (cwV 2 S.2.2.2.2 gX2_putIn_X2_has rfl rfl rfl (by decide +kernel) ⟨Nat.le_of_ble_eq_true rfl, Nat.le_of_ble_eq_true rfl⟩) rfl rfl rfl rfl (Nat.le_of_ble_eq_true rfl) ⟨Nat.le_of_ble_eq_true rfl, Nat.le_of_ble_eq_true rfl⟩ (fun _ q => q.elim) (fun _ h => mw_x h) (fun _ h => h) (fun _ _ _ h _ _ => h) dX2_putIn_68 ?_
              have o71 := hoo (302 * o + (q - 1))
              have r71 := (show oo (302 * o + (q - 1)) = 1 ↔ cov (sp o) (q - 1) by rw [hhi o (by omega) (by omega) (q - 1) (by omega) (by omega)]; exact hrl o (by omega) (by omega) (q - 1) (by omega) (by omega))
              refine g_if_eq S (tgt := 87) dX2_putIn_71 (by decide) (by omega) (fun c71 => ?_) (fun c71 => ?_)
              · skip
                refine g_iconst S dX2_putIn_87 ?_
                exact L88 0 (Or.inl rfl) (⟨fun z => absurd z (by decide), fun z => by have y := r71.mpr z.1; omega⟩)
              · skip
                refine g_aload_n S dX2_putIn_74 rfl 0 rfl ?_
                refine g_iload_n S dX2_putIn_75 rfl 3 rfl ?_
                refine g_iload_n S dX2_putIn_76 rfl 1 rfl ?_
                refine g_callV S xK (As := [.int (iI o), .int (iI q)]) (st := []) (stk' := [.int (iI (oo (302 * o + q)))]) (Wp' := MW E am 0 pg n oo se al) (r := (RX2, TX2, 6)) (m_X2_has l E hj 0 pg n oo se al o q (by omega) (by omega) hoo) (cwV 2 S.2.2.2.2 gX2_putIn_X2_has rfl rfl rfl (by decide +kernel) ⟨Nat.le_of_ble_eq_true rfl, Nat.le_of_ble_eq_true rfl⟩) rfl rfl rfl rfl (Nat.le_of_ble_eq_true rfl) ⟨Nat.le_of_ble_eq_true rfl, Nat.le_of_ble_eq_true rfl⟩ (fun _ q => q.elim) (fun _ h => mw_x h) (fun _ h => h) (fun _ _ _ h _ _ => h) dX2_putIn_77 ?_
                have o80 := hoo (302 * o + q)
                have r80 := (show oo (302 * o + q) = 1 ↔ cov (sp o) q by rw [hhi o (by omega) (by omega) q (by omega) (by omega)]; exact hrl o (by omega) (by omega) q (by omega) (by omega))
                refine g_if_eq S (tgt := 87) dX2_putIn_80 (by decide) (by omega) (fun c80 => ?_) (fun c80 => ?_)
                · skip
                  refine g_iconst S dX2_putIn_87 ?_
                  exact L88 0 (Or.inl rfl) (⟨fun z => absurd z (by decide), fun z => by have y := r80.mpr z.2; omega⟩)
                · skip
                  refine g_iconst S dX2_putIn_83 ?_
                  refine g_goto S (tgt := 88) dX2_putIn_84 (by decide) ?_
                  exact L88 1 (Or.inr rfl) (⟨fun _ => ⟨r71.mp (by omega), r80.mp (by omega)⟩, fun _ => rfl⟩)
        refine g_lv [1, 2, 3, 0] rfl ?_
        exact L55 ((n - 0) + 1).toNat 0 on (by omega) (hon) (fun h h0 h1 => by omega) (fun _ _ _ _ _ _ => rfl) (by omega)
      · skip
        exact absurd c44 (by omega)
    · skip
      exact absurd c26 (by rw [pI_t (P := 1 ≤ mn ∧ mn ≤ 100) (by omega)]; decide)
set_option maxHeartbeats 4000000 in
set_option maxRecDepth 100000 in
theorem m_X2_putInE (l : Launch) (E : EN) {am : Int → Nat} (hj : INM am) (th pg n : Int) (on se : Int → Int) (al : Int → Nat) (q mn : Int) (hpg : 1 ≤ pg ∧ pg ≤ 300) (hq : q < 1 ∨ pg + 1 < q ∨ mn < 1 ∨ 100 < mn) (hr : -2147483648 ≤ q ∧ q ≤ 2147483647 ∧ -2147483648 ≤ mn ∧ mn ≤ 2147483647) : Met l yX2_putIn wsX2_putIn ({ frames := 1, cells := 0, slots := 0, locals := 22 }) (CI E [.ref (am 0), .int (iI q), .int (iI mn)] (MW E am th pg n on se al)) (QW (some (.int (iI 0))) (MW E am 1 pg n on se al) (AM am)) 0 0 (AM am) := by
  refine g_met (cc := cX2_putIn) (maxL := 6) (ret := (some .int)) (lv := [(0, .ref (am 0)), (1, .int (iI q)), (2, .int (iI mn))]) (by decide) rfl (Nat.le_of_ble_eq_true rfl) rfl ?_
  intro xp xe xs xm xa xb xh xc S xK xr xlk xin
  have kf24 := S.2.2.2.2 (.fieldLink RX2 24 "BookIndexModel" "thrown" "I") (by decide +kernel)
  have kf9 := S.2.2.2.2 (.fieldLink RX2 9 "BookIndexModel" "pages" "I") (by decide +kernel)
  have hin2 : ∀ w ∈ wsX20, w ∈ wsX2_putIn := by decide +kernel
  refine g_aload_n S dX2_putIn_0 rfl 0 rfl ?_
  refine g_iconst S dX2_putIn_1 ?_
  refine g_put S xK (Wp' := MW E am 0 pg n on se al) (ref := "BookIndexModel") (ty := .int) hin2 tyX2 tyX2_ok nmX2 0 (by decide) (show vwCl[2]? = some (RX2, TX2, 6) from rfl) kf24 (fun _ h9 => h9) rfl (by decide +kernel) rfl rfl (fun _ h => mw_x h) (Nat.le_of_ble_eq_true rfl) (am_in (by omega)) (fun _ _ h hv _ oq => mw_sX hj h hv oq) dX2_putIn_2 ?_
  refine g_iload_n S dX2_putIn_5 rfl 1 rfl ?_
  refine g_iconst S dX2_putIn_6 ?_
  refine g_aload_n S dX2_putIn_7 rfl 0 rfl ?_
  refine g_get S xK (ref := "BookIndexModel") hin2 1 (by decide) (show vwCl[2]? = some (RX2, TX2, 6) from rfl) kf9 (fun _ h9 => h9) (fun _ h => mw_x h) rfl dX2_putIn_8 ?_
  refine g_iconst S dX2_putIn_11 ?_
  refine g_iadd S dX2_putIn_12 ?_
  refine g_callS S xK (As := [.int (iI q), .int (iI 1), .int (iI (pg + 1))]) (st := []) (stk' := [.int (iI (pI (1 ≤ q ∧ q ≤ pg + 1)))]) (Wp' := MW E am 0 pg n on se al) (m_X2_isIn l E (Wp := MW E am 0 pg n on se al) q 1 (pg + 1) (by omega)) (cwS 3 S.2.2.2.2 gX2_putIn_X2_isIn rfl rfl rfl (by decide +kernel) ⟨Nat.le_of_ble_eq_true rfl, Nat.le_of_ble_eq_true rfl⟩) rfl rfl rfl (Nat.le_of_ble_eq_true rfl) ⟨Nat.le_of_ble_eq_true rfl, Nat.le_of_ble_eq_true rfl⟩ (fun _ q => q.elim) (fun _ h => h) (fun _ _ _ h _ _ => h) dX2_putIn_13 ?_
  have z16 := pI_b (1 ≤ q ∧ q ≤ pg + 1)
  refine g_if_eq S (tgt := 29) dX2_putIn_16 (by decide) (by omega) (fun c16 => ?_) (fun c16 => ?_)
  · skip
    refine g_aload_n S dX2_putIn_29 rfl 0 rfl ?_
    refine g_iconst S dX2_putIn_30 ?_
    refine g_callV S xK (As := [.int (iI 1)]) (st := []) (stk' := [.int (iI 0)]) (Wp' := MW E am 1 pg n on se al) (r := (RX2, TX2, 6)) (m_X2_no l E hj 0 pg n on se al 1 ) (cwV 1 S.2.2.2.2 gX2_putIn_X2_no rfl rfl rfl (by decide +kernel) ⟨Nat.le_of_ble_eq_true rfl, Nat.le_of_ble_eq_true rfl⟩) rfl rfl rfl rfl (Nat.le_of_ble_eq_true rfl) ⟨Nat.le_of_ble_eq_true rfl, Nat.le_of_ble_eq_true rfl⟩ (fun _ q => q) (fun _ h => mw_x h) (fun _ h => h) (fun _ _ _ h _ _ => h) dX2_putIn_31 ?_
    exact g_iret S xr xlk dX2_putIn_34 (fun _ h => h)
  · skip
    refine g_iload_n S dX2_putIn_19 rfl 2 rfl ?_
    refine g_iconst S dX2_putIn_20 ?_
    refine g_bipush S dX2_putIn_21 (by decide) ?_
    refine g_callS S xK (As := [.int (iI mn), .int (iI 1), .int (iI 100)]) (st := []) (stk' := [.int (iI (pI (1 ≤ mn ∧ mn ≤ 100)))]) (Wp' := MW E am 0 pg n on se al) (m_X2_isIn l E (Wp := MW E am 0 pg n on se al) mn 1 100 (by omega)) (cwS 3 S.2.2.2.2 gX2_putIn_X2_isIn rfl rfl rfl (by decide +kernel) ⟨Nat.le_of_ble_eq_true rfl, Nat.le_of_ble_eq_true rfl⟩) rfl rfl rfl (Nat.le_of_ble_eq_true rfl) ⟨Nat.le_of_ble_eq_true rfl, Nat.le_of_ble_eq_true rfl⟩ (fun _ q => q.elim) (fun _ h => h) (fun _ _ _ h _ _ => h) dX2_putIn_23 ?_
    have z26 := pI_b (1 ≤ mn ∧ mn ≤ 100)
    refine g_if_ne S (tgt := 35) dX2_putIn_26 (by decide) (by omega) (fun c26 => ?_) (fun c26 => ?_)
    · skip
      exact absurd (pI_ne0 c26) (by have z := pI_ne0 c16; omega)
    · skip
      refine g_aload_n S dX2_putIn_29 rfl 0 rfl ?_
      refine g_iconst S dX2_putIn_30 ?_
      refine g_callV S xK (As := [.int (iI 1)]) (st := []) (stk' := [.int (iI 0)]) (Wp' := MW E am 1 pg n on se al) (r := (RX2, TX2, 6)) (m_X2_no l E hj 0 pg n on se al 1 ) (cwV 1 S.2.2.2.2 gX2_putIn_X2_no rfl rfl rfl (by decide +kernel) ⟨Nat.le_of_ble_eq_true rfl, Nat.le_of_ble_eq_true rfl⟩) rfl rfl rfl rfl (Nat.le_of_ble_eq_true rfl) ⟨Nat.le_of_ble_eq_true rfl, Nat.le_of_ble_eq_true rfl⟩ (fun _ q => q) (fun _ h => mw_x h) (fun _ h => h) (fun _ _ _ h _ _ => h) dX2_putIn_31 ?_
      exact g_iret S xr xlk dX2_putIn_34 (fun _ h => h)
set_option maxHeartbeats 4000000 in
set_option maxRecDepth 100000 in
theorem m_X2_putInF (l : Launch) (E : EN) {am : Int → Nat} (hj : INM am) (th pg n : Int) (on se : Int → Int) (al : Int → Nat) (q mn : Int) (hpg : 1 ≤ pg ∧ pg ≤ 300) (hq : 1 ≤ q ∧ q ≤ pg + 1 ∧ 1 ≤ mn ∧ mn ≤ 100 ∧ 300 < pg + mn) : Met l yX2_putIn wsX2_putIn ({ frames := 1, cells := 0, slots := 0, locals := 22 }) (CI E [.ref (am 0), .int (iI q), .int (iI mn)] (MW E am th pg n on se al)) (QW (some (.int (iI 0))) (MW E am 2 pg n on se al) (AM am)) 0 0 (AM am) := by
  refine g_met (cc := cX2_putIn) (maxL := 6) (ret := (some .int)) (lv := [(0, .ref (am 0)), (1, .int (iI q)), (2, .int (iI mn))]) (by decide) rfl (Nat.le_of_ble_eq_true rfl) rfl ?_
  intro xp xe xs xm xa xb xh xc S xK xr xlk xin
  have kf24 := S.2.2.2.2 (.fieldLink RX2 24 "BookIndexModel" "thrown" "I") (by decide +kernel)
  have kf9 := S.2.2.2.2 (.fieldLink RX2 9 "BookIndexModel" "pages" "I") (by decide +kernel)
  have hin2 : ∀ w ∈ wsX20, w ∈ wsX2_putIn := by decide +kernel
  refine g_aload_n S dX2_putIn_0 rfl 0 rfl ?_
  refine g_iconst S dX2_putIn_1 ?_
  refine g_put S xK (Wp' := MW E am 0 pg n on se al) (ref := "BookIndexModel") (ty := .int) hin2 tyX2 tyX2_ok nmX2 0 (by decide) (show vwCl[2]? = some (RX2, TX2, 6) from rfl) kf24 (fun _ h9 => h9) rfl (by decide +kernel) rfl rfl (fun _ h => mw_x h) (Nat.le_of_ble_eq_true rfl) (am_in (by omega)) (fun _ _ h hv _ oq => mw_sX hj h hv oq) dX2_putIn_2 ?_
  refine g_iload_n S dX2_putIn_5 rfl 1 rfl ?_
  refine g_iconst S dX2_putIn_6 ?_
  refine g_aload_n S dX2_putIn_7 rfl 0 rfl ?_
  refine g_get S xK (ref := "BookIndexModel") hin2 1 (by decide) (show vwCl[2]? = some (RX2, TX2, 6) from rfl) kf9 (fun _ h9 => h9) (fun _ h => mw_x h) rfl dX2_putIn_8 ?_
  refine g_iconst S dX2_putIn_11 ?_
  refine g_iadd S dX2_putIn_12 ?_
  refine g_callS S xK (As := [.int (iI q), .int (iI 1), .int (iI (pg + 1))]) (st := []) (stk' := [.int (iI (pI (1 ≤ q ∧ q ≤ pg + 1)))]) (Wp' := MW E am 0 pg n on se al) (m_X2_isIn l E (Wp := MW E am 0 pg n on se al) q 1 (pg + 1) (by omega)) (cwS 3 S.2.2.2.2 gX2_putIn_X2_isIn rfl rfl rfl (by decide +kernel) ⟨Nat.le_of_ble_eq_true rfl, Nat.le_of_ble_eq_true rfl⟩) rfl rfl rfl (Nat.le_of_ble_eq_true rfl) ⟨Nat.le_of_ble_eq_true rfl, Nat.le_of_ble_eq_true rfl⟩ (fun _ q => q.elim) (fun _ h => h) (fun _ _ _ h _ _ => h) dX2_putIn_13 ?_
  have z16 := pI_b (1 ≤ q ∧ q ≤ pg + 1)
  refine g_if_eq S (tgt := 29) dX2_putIn_16 (by decide) (by omega) (fun c16 => ?_) (fun c16 => ?_)
  · skip
    exact absurd c16 (by rw [pI_t (P := 1 ≤ q ∧ q ≤ pg + 1) (by omega)]; decide)
  · skip
    refine g_iload_n S dX2_putIn_19 rfl 2 rfl ?_
    refine g_iconst S dX2_putIn_20 ?_
    refine g_bipush S dX2_putIn_21 (by decide) ?_
    refine g_callS S xK (As := [.int (iI mn), .int (iI 1), .int (iI 100)]) (st := []) (stk' := [.int (iI (pI (1 ≤ mn ∧ mn ≤ 100)))]) (Wp' := MW E am 0 pg n on se al) (m_X2_isIn l E (Wp := MW E am 0 pg n on se al) mn 1 100 (by omega)) (cwS 3 S.2.2.2.2 gX2_putIn_X2_isIn rfl rfl rfl (by decide +kernel) ⟨Nat.le_of_ble_eq_true rfl, Nat.le_of_ble_eq_true rfl⟩) rfl rfl rfl (Nat.le_of_ble_eq_true rfl) ⟨Nat.le_of_ble_eq_true rfl, Nat.le_of_ble_eq_true rfl⟩ (fun _ q => q.elim) (fun _ h => h) (fun _ _ _ h _ _ => h) dX2_putIn_23 ?_
    have z26 := pI_b (1 ≤ mn ∧ mn ≤ 100)
    refine g_if_ne S (tgt := 35) dX2_putIn_26 (by decide) (by omega) (fun c26 => ?_) (fun c26 => ?_)
    · skip
      refine g_aload_n S dX2_putIn_35 rfl 0 rfl ?_
      refine g_get S xK (ref := "BookIndexModel") hin2 1 (by decide) (show vwCl[2]? = some (RX2, TX2, 6) from rfl) kf9 (fun _ h9 => h9) (fun _ h => mw_x h) rfl dX2_putIn_36 ?_
      refine g_iload_n S dX2_putIn_39 rfl 2 rfl ?_
      refine g_iadd S dX2_putIn_40 ?_
      refine g_sipush S dX2_putIn_41 (by decide) ?_
      refine g_icmp_le S (tgt := 53) dX2_putIn_44 (by decide) (by omega) (fun c44 => ?_) (fun c44 => ?_)
      · skip
        exact absurd c44 (by omega)
      · skip
        refine g_aload_n S dX2_putIn_47 rfl 0 rfl ?_
        refine g_iconst S dX2_putIn_48 ?_
        refine g_callV S xK (As := [.int (iI 2)]) (st := []) (stk' := [.int (iI 0)]) (Wp' := MW E am 2 pg n on se al) (r := (RX2, TX2, 6)) (m_X2_no l E hj 0 pg n on se al 2 ) (cwV 1 S.2.2.2.2 gX2_putIn_X2_no rfl rfl rfl (by decide +kernel) ⟨Nat.le_of_ble_eq_true rfl, Nat.le_of_ble_eq_true rfl⟩) rfl rfl rfl rfl (Nat.le_of_ble_eq_true rfl) ⟨Nat.le_of_ble_eq_true rfl, Nat.le_of_ble_eq_true rfl⟩ (fun _ q => q) (fun _ h => mw_x h) (fun _ h => h) (fun _ _ _ h _ _ => h) dX2_putIn_49 ?_
        exact g_iret S xr xlk dX2_putIn_52 (fun _ h => h)
    · skip
      exact absurd c26 (by rw [pI_t (P := 1 ≤ mn ∧ mn ≤ 100) (by omega)]; decide)
set_option maxHeartbeats 4000000 in
set_option maxRecDepth 100000 in
theorem m_X2_takeOut (l : Launch) (E : EN) {am : Int → Nat} (hj : INM am) (th pg n : Int) (on se : Int → Int) (al : Int → Nat) (sp : Int → SpT) (q : Int) (hq : 1 ≤ q ∧ q ≤ pg ∧ 1 < pg) (hn : 0 ≤ n ∧ n ≤ 24) (hpg : 1 ≤ pg ∧ pg ≤ 300) (hrl : RPS on sp n) (hsp : SPV sp n pg) (hon : ∀ k, on k = 0 ∨ on k = 1) : Met l yX2_takeOut wsX2_takeOut ({ frames := 2, cells := 0, slots := 0, locals := 45 }) (CI E [.ref (am 0), .int (iI q)] (MW E am th pg n on se al)) (QW (some (.int (iI (CHN sp n q)))) (fun H => ∃ oo : Int → Int, ((∀ k, oo k = 0 ∨ oo k = 1) ∧ ∀ h : Int, 0 ≤ h → h < n → ∀ r : Int, 0 ≤ r → r ≤ 301 → (oo (302 * h + r) = 1 ↔ cov (sp h) (if r < q then r else r + 1))) ∧ (∀ h : Int, n ≤ h → h < 24 → ∀ r : Int, 0 ≤ r → r ≤ 301 → oo (302 * h + r) = on (302 * h + r)) ∧ MW E am 0 (pg - 1) n oo se al H) (AM am)) 0 0 (AM am) := by
  refine g_met (cc := cX2_takeOut) (maxL := 5) (ret := (some .int)) (lv := [(0, .ref (am 0)), (1, .int (iI q))]) (by decide) rfl (Nat.le_of_ble_eq_true rfl) rfl ?_
  intro xp xe xs xm xa xb xh xc S xK xr xlk xin
  have kf24 := S.2.2.2.2 (.fieldLink RX2 24 "BookIndexModel" "thrown" "I") (by decide +kernel)
  have kf9 := S.2.2.2.2 (.fieldLink RX2 9 "BookIndexModel" "pages" "I") (by decide +kernel)
  have kf27 := S.2.2.2.2 (.fieldLink RX2 27 "BookIndexModel" "headings" "I") (by decide +kernel)
  have hin2 : ∀ w ∈ wsX20, w ∈ wsX2_takeOut := by decide +kernel
  refine g_aload_n S dX2_takeOut_0 rfl 0 rfl ?_
  refine g_iconst S dX2_takeOut_1 ?_
  refine g_put S xK (Wp' := MW E am 0 pg n on se al) (ref := "BookIndexModel") (ty := .int) hin2 tyX2 tyX2_ok nmX2 0 (by decide) (show vwCl[2]? = some (RX2, TX2, 6) from rfl) kf24 (fun _ h9 => h9) rfl (by decide +kernel) rfl rfl (fun _ h => mw_x h) (Nat.le_of_ble_eq_true rfl) (am_in (by omega)) (fun _ _ h hv _ oq => mw_sX hj h hv oq) dX2_takeOut_2 ?_
  refine g_aload_n S dX2_takeOut_5 rfl 0 rfl ?_
  refine g_iload_n S dX2_takeOut_6 rfl 1 rfl ?_
  refine g_callV S xK (As := [.int (iI q)]) (st := []) (stk' := [.int (iI (pI (1 ≤ q ∧ q ≤ pg)))]) (Wp' := MW E am 0 pg n on se al) (r := (RX2, TX2, 6)) (m_X2_isPage l E hj 0 pg n on se al q (by omega) hpg) (cwV 1 S.2.2.2.2 gX2_takeOut_X2_isPage rfl rfl rfl (by decide +kernel) ⟨Nat.le_of_ble_eq_true rfl, Nat.le_of_ble_eq_true rfl⟩) rfl rfl rfl rfl (Nat.le_of_ble_eq_true rfl) ⟨Nat.le_of_ble_eq_true rfl, Nat.le_of_ble_eq_true rfl⟩ (fun _ q => q.elim) (fun _ h => mw_x h) (fun _ h => h) (fun _ _ _ h _ _ => h) dX2_takeOut_7 ?_
  have z10 := pI_b (1 ≤ q ∧ q ≤ pg)
  refine g_if_ne S (tgt := 19) dX2_takeOut_10 (by decide) (by omega) (fun c10 => ?_) (fun c10 => ?_)
  · skip
    refine g_aload_n S dX2_takeOut_19 rfl 0 rfl ?_
    refine g_get S xK (ref := "BookIndexModel") hin2 1 (by decide) (show vwCl[2]? = some (RX2, TX2, 6) from rfl) kf9 (fun _ h9 => h9) (fun _ h => mw_x h) rfl dX2_takeOut_20 ?_
    refine g_iconst S dX2_takeOut_23 ?_
    refine g_icmp_ne S (tgt := 33) dX2_takeOut_24 (by decide) (by omega) (fun c24 => ?_) (fun c24 => ?_)
    · skip
      refine g_aload_n S dX2_takeOut_33 rfl 0 rfl ?_
      refine g_iload_n S dX2_takeOut_34 rfl 1 rfl ?_
      refine g_callV S xK (As := [.int (iI q)]) (st := []) (stk' := [.int (iI (smI (fun o => on (302 * o + q)) n.toNat))]) (Wp' := MW E am 0 pg n on se al) (r := (RX2, TX2, 6)) (m_X2_onPage l E hj 0 pg n on se al q (by omega) hn hon) (cwV 1 S.2.2.2.2 gX2_takeOut_X2_onPage rfl rfl rfl (by decide +kernel) ⟨Nat.le_of_ble_eq_true rfl, Nat.le_of_ble_eq_true rfl⟩) rfl rfl rfl rfl (Nat.le_of_ble_eq_true rfl) ⟨Nat.le_of_ble_eq_true rfl, Nat.le_of_ble_eq_true rfl⟩ (fun _ q => q.elim) (fun _ h => mw_x h) (fun _ h => h) (fun _ _ _ h _ _ => h) dX2_takeOut_35 ?_
      refine g_istore_n S (lv' := [(2, .int (iI (smI (fun o => on (302 * o + q)) n.toNat))), (0, .ref (am 0)), (1, .int (iI q))]) dX2_takeOut_38 rfl (Nat.le_of_ble_eq_true rfl) rfl ?_
      refine g_iconst S dX2_takeOut_39 ?_
      refine g_istore_n S (lv' := [(3, .int (iI 0)), (2, .int (iI (smI (fun o => on (302 * o + q)) n.toNat))), (0, .ref (am 0)), (1, .int (iI q))]) dX2_takeOut_40 rfl (Nat.le_of_ble_eq_true rfl) rfl ?_
      have L41 : ∀ (nf : Nat) (o : Int) (oo : Int → Int), (0 ≤ o ∧ o ≤ n) → (∀ k, oo k = 0 ∨ oo k = 1) → (∀ h : Int, 0 ≤ h → h < o → ∀ r : Int, 0 ≤ r → r ≤ 301 → (oo (302 * h + r) = 1 ↔ cov (sp h) (if r < q then r else r + 1))) → (∀ h : Int, o ≤ h → h < 24 → ∀ r : Int, 0 ≤ r → r ≤ 301 → oo (302 * h + r) = on (302 * h + r)) → (n - o < (nf : Int)) → G xp l xe ({ frames := 2, cells := 0, slots := 0, locals := 45 }) xs xm xa xb xh xc 5 (AM am) 0 0 (MQ xb (QW (some (.int (iI (CHN sp n q)))) (fun H => ∃ oo : Int → Int, ((∀ k, oo k = 0 ∨ oo k = 1) ∧ ∀ h : Int, 0 ≤ h → h < n → ∀ r : Int, 0 ≤ r → r ≤ 301 → (oo (302 * h + r) = 1 ↔ cov (sp h) (if r < q then r else r + 1))) ∧ (∀ h : Int, n ≤ h → h < 24 → ∀ r : Int, 0 ≤ r → r ≤ 301 → oo (302 * h + r) = on (302 * h + r)) ∧ MW E am 0 (pg - 1) n oo se al H) (AM am)) xa xs 0 0 (AM am)) 41 [(0, .ref (am 0)), (1, .int (iI q)), (2, .int (iI (smI (fun o => on (302 * o + q)) n.toNat))), (3, .int (iI o))] [] (MW E am 0 pg n oo se al) := by
        intro nf
        induction nf with
        | zero =>
          intro o oo ho hoo hlo hhi hmf
          exfalso
          omega
        | succ nf ihL41 =>
          intro o oo ho hoo hlo hhi hmf
          refine g_iload_n S dX2_takeOut_41 rfl 3 rfl ?_
          refine g_aload_n S dX2_takeOut_42 rfl 0 rfl ?_
          refine g_get S xK (ref := "BookIndexModel") hin2 2 (by decide) (show vwCl[2]? = some (RX2, TX2, 6) from rfl) kf27 (fun _ h9 => h9) (fun _ h => mw_x h) rfl dX2_takeOut_43 ?_
          refine g_icmp_ge S (tgt := 99) dX2_takeOut_46 (by decide) (by omega) (fun c46 => ?_) (fun c46 => ?_)
          · skip
            refine g_aload_n S dX2_takeOut_99 rfl 0 rfl ?_
            refine g_dup S dX2_takeOut_100 rfl ?_
            refine g_get S xK (ref := "BookIndexModel") hin2 1 (by decide) (show vwCl[2]? = some (RX2, TX2, 6) from rfl) kf9 (fun _ h9 => h9) (fun _ h => mw_x h) rfl dX2_takeOut_101 ?_
            refine g_iconst S dX2_takeOut_104 ?_
            refine g_isub S dX2_takeOut_105 ?_
            refine g_put S xK (Wp' := MW E am 0 (pg - 1) n oo se al) (ref := "BookIndexModel") (ty := .int) hin2 tyX2 tyX2_ok nmX2 1 (by decide) (show vwCl[2]? = some (RX2, TX2, 6) from rfl) kf9 (fun _ h9 => h9) rfl (by decide +kernel) rfl rfl (fun _ h => mw_x h) (Nat.le_of_ble_eq_true rfl) (am_in (by omega)) (fun _ _ h hv _ oq => mw_sX hj h hv oq) dX2_takeOut_106 ?_
            refine g_iload_n S dX2_takeOut_109 rfl 2 rfl ?_
            rw [show (CHN sp n q) = (smI (fun o => on (302 * o + q)) n.toNat) from (rl_onPage hrl hon (by omega)).symm]
            exact g_iret S xr xlk dX2_takeOut_110 (fun _ h => ⟨oo, ⟨hoo, fun h_ h0 h1 => hlo h_ h0 (by omega)⟩, fun h_ h0 h1 r r0 r1 => hhi h_ (by omega) h1 r r0 r1, h⟩)
          · skip
            refine g_iload_n S dX2_takeOut_49 rfl 1 rfl ?_
            refine g_istore S (lv' := [(4, .int (iI q)), (0, .ref (am 0)), (1, .int (iI q)), (2, .int (iI (smI (fun o => on (302 * o + q)) n.toNat))), (3, .int (iI o))]) dX2_takeOut_50 (Nat.le_of_ble_eq_true rfl) rfl ?_
            have L52 : ∀ (nf : Nat) (p : Int) (o2 : Int → Int), (q ≤ p ∧ p ≤ pg) → (o2 = shO oo (302 * o + q) (302 * o + p - 1) (-1)) → (pg - p < (nf : Int)) → G xp l xe ({ frames := 2, cells := 0, slots := 0, locals := 45 }) xs xm xa xb xh xc 5 (AM am) 0 0 (MQ xb (QW (some (.int (iI (CHN sp n q)))) (fun H => ∃ oo : Int → Int, ((∀ k, oo k = 0 ∨ oo k = 1) ∧ ∀ h : Int, 0 ≤ h → h < n → ∀ r : Int, 0 ≤ r → r ≤ 301 → (oo (302 * h + r) = 1 ↔ cov (sp h) (if r < q then r else r + 1))) ∧ (∀ h : Int, n ≤ h → h < 24 → ∀ r : Int, 0 ≤ r → r ≤ 301 → oo (302 * h + r) = on (302 * h + r)) ∧ MW E am 0 (pg - 1) n oo se al H) (AM am)) xa xs 0 0 (AM am)) 52 [(0, .ref (am 0)), (1, .int (iI q)), (2, .int (iI (smI (fun o => on (302 * o + q)) n.toNat))), (3, .int (iI o)), (4, .int (iI p))] [] (MW E am 0 pg n o2 se al) := by
              intro nf
              induction nf with
              | zero =>
                intro p o2 hp h2 hmf
                exfalso
                omega
              | succ nf ihL52 =>
                intro p o2 hp h2 hmf
                refine g_iload S dX2_takeOut_52 4 rfl ?_
                refine g_aload_n S dX2_takeOut_54 rfl 0 rfl ?_
                refine g_get S xK (ref := "BookIndexModel") hin2 1 (by decide) (show vwCl[2]? = some (RX2, TX2, 6) from rfl) kf9 (fun _ h9 => h9) (fun _ h => mw_x h) rfl dX2_takeOut_55 ?_
                refine g_icmp_ge S (tgt := 83) dX2_takeOut_58 (by decide) (by omega) (fun c58 => ?_) (fun c58 => ?_)
                · skip
                  have hfin : o2 = shO oo (302 * o + q) (302 * o + pg - 1) (-1) := by rw [h2, show p = pg by omega]
                  have hrow := out_row (hsp o (by omega) (by omega)).1 (oo := oo) (o := o) (q := q) (fun r r0 r1 => by rw [hhi o (by omega) (by omega) r r0 r1]; exact hrl o (by omega) (by omega) r r0 r1) (by omega)
                  refine g_aload_n S dX2_takeOut_83 rfl 0 rfl ?_
                  refine g_iload_n S dX2_takeOut_84 rfl 3 rfl ?_
                  refine g_aload_n S dX2_takeOut_85 rfl 0 rfl ?_
                  refine g_get S xK (ref := "BookIndexModel") hin2 1 (by decide) (show vwCl[2]? = some (RX2, TX2, 6) from rfl) kf9 (fun _ h9 => h9) (fun _ h => mw_x h) rfl dX2_takeOut_86 ?_
                  refine g_iconst S dX2_takeOut_89 ?_
                  refine g_callV S xK (As := [.int (iI o), .int (iI pg), .int (iI 0)]) (st := []) (stk' := []) (Wp' := MW E am 0 pg n (upI o2 (302 * o + pg) 0) se al) (r := (RX2, TX2, 6)) (m_X2_let l E hj 0 pg n o2 se al o pg 0 (by omega) (by omega) (Or.inl rfl)) (cwV 3 S.2.2.2.2 gX2_takeOut_X2_let rfl rfl rfl (by decide +kernel) ⟨Nat.le_of_ble_eq_true rfl, Nat.le_of_ble_eq_true rfl⟩) rfl rfl rfl rfl (Nat.le_of_ble_eq_true rfl) ⟨Nat.le_of_ble_eq_true rfl, Nat.le_of_ble_eq_true rfl⟩ (fun _ q => q) (fun _ h => mw_x h) (fun _ h => h) (fun _ _ _ h _ _ => h) dX2_takeOut_90 ?_
                  refine g_iinc S (lv' := [(3, .int (iI (o + 1))), (0, .ref (am 0)), (1, .int (iI q)), (2, .int (iI (smI (fun o => on (302 * o + q)) n.toNat))), (4, .int (iI p))]) dX2_takeOut_93 3 rfl (Nat.le_of_ble_eq_true rfl) rfl ?_
                  refine g_goto S (tgt := 41) dX2_takeOut_96 (by decide) ?_
                  refine g_lv [1, 2, 3, 0] rfl ?_
                  exact ihL41 (o + 1) (upI o2 (302 * o + pg) 0) (by omega) (upI_01 (by rw [hfin]; exact shO_01 hoo) (Or.inl rfl)) (fun h h0 h1 r r0 r1 => by by_cases e : h = o; (· rw [e, hfin]; exact hrow r r0 r1); (· rw [hfin, out_off oo (by omega) e ⟨r0, r1⟩]; exact hlo h h0 (by omega) r r0 r1)) (fun h h0 h1 r r0 r1 => by rw [hfin, out_off oo (by omega) (by omega) ⟨r0, r1⟩]; exact hhi h (by omega) h1 r r0 r1) (by omega)
                · skip
                  have on2 : ∀ k, o2 k = 0 ∨ o2 k = 1 := by rw [h2]; exact shO_01 hoo
                  have g2 : o2 (302 * o + (p + 1)) = oo (302 * o + (p + 1)) := by rw [h2]; exact if_neg (by omega)
                  refine g_aload_n S dX2_takeOut_61 rfl 0 rfl ?_
                  refine g_iload_n S dX2_takeOut_62 rfl 3 rfl ?_
                  refine g_iload S dX2_takeOut_63 4 rfl ?_
                  refine g_aload_n S dX2_takeOut_65 rfl 0 rfl ?_
                  refine g_iload_n S dX2_takeOut_66 rfl 3 rfl ?_
                  refine g_iload S dX2_takeOut_67 4 rfl ?_
                  refine g_iconst S dX2_takeOut_69 ?_
                  refine g_iadd S dX2_takeOut_70 ?_
                  refine g_callV S xK (As := [.int (iI o), .int (iI (p + 1))]) (st := [.int (iI p), .int (iI o), .ref (am 0)]) (stk' := [.int (iI (o2 (302 * o + (p + 1)))), .int (iI p), .int (iI o), .ref (am 0)]) (Wp' := MW E am 0 pg n o2 se al) (r := (RX2, TX2, 6)) (m_X2_has l E hj 0 pg n o2 se al o (p + 1) (by omega) (by omega) on2) (cwV 2 S.2.2.2.2 gX2_takeOut_X2_has rfl rfl rfl (by decide +kernel) ⟨Nat.le_of_ble_eq_true rfl, Nat.le_of_ble_eq_true rfl⟩) rfl rfl rfl rfl (Nat.le_of_ble_eq_true rfl) ⟨Nat.le_of_ble_eq_true rfl, Nat.le_of_ble_eq_true rfl⟩ (fun _ q => q.elim) (fun _ h => mw_x h) (fun _ h => h) (fun _ _ _ h _ _ => h) dX2_takeOut_71 ?_
                  refine g_callV S xK (As := [.int (iI o), .int (iI p), .int (iI (o2 (302 * o + (p + 1))))]) (st := []) (stk' := []) (Wp' := MW E am 0 pg n (upI o2 (302 * o + p) (o2 (302 * o + (p + 1)))) se al) (r := (RX2, TX2, 6)) (m_X2_let l E hj 0 pg n o2 se al o p (o2 (302 * o + (p + 1))) (by omega) (by omega) (on2 _)) (cwV 3 S.2.2.2.2 gX2_takeOut_X2_let rfl rfl rfl (by decide +kernel) ⟨Nat.le_of_ble_eq_true rfl, Nat.le_of_ble_eq_true rfl⟩) rfl rfl rfl rfl (Nat.le_of_ble_eq_true rfl) ⟨Nat.le_of_ble_eq_true rfl, Nat.le_of_ble_eq_true rfl⟩ (fun _ q => q) (fun _ h => mw_x h) (fun _ h => h) (fun _ _ _ h _ _ => h) dX2_takeOut_74 ?_
                  refine g_iinc S (lv' := [(4, .int (iI (p + 1))), (0, .ref (am 0)), (1, .int (iI q)), (2, .int (iI (smI (fun o => on (302 * o + q)) n.toNat))), (3, .int (iI o))]) dX2_takeOut_77 4 rfl (Nat.le_of_ble_eq_true rfl) rfl ?_
                  refine g_goto S (tgt := 52) dX2_takeOut_80 (by decide) ?_
                  refine g_lv [1, 2, 3, 4, 0] rfl ?_
                  exact ihL52 (p + 1) (upI o2 (302 * o + p) (o2 (302 * o + (p + 1)))) (by omega) (by have e := shO_u oo (a := 302 * o + q) (b := 302 * o + p - 1) (m := -1) (by omega); rw [show 302 * o + p - 1 + 1 = 302 * o + p by omega, show 302 * o + p - -1 = 302 * o + (p + 1) by omega] at e; rw [g2, h2, show 302 * o + (p + 1) - 1 = 302 * o + p by omega]; exact e) (by omega)
            refine g_lv [1, 2, 3, 4, 0] rfl ?_
            exact L52 ((pg - q) + 1).toNat q oo (by omega) ((shO_0 _ _ (by omega)).symm) (by omega)
      refine g_lv [2, 3, 1, 0] rfl ?_
      exact L41 ((n - 0) + 1).toNat 0 on (by omega) (hon) (fun h h0 h1 => by omega) (fun _ _ _ _ _ _ => rfl) (by omega)
    · skip
      exact absurd c24 (by omega)
  · skip
    exact absurd c10 (by rw [pI_t (P := 1 ≤ q ∧ q ≤ pg) (by omega)]; decide)
set_option maxHeartbeats 4000000 in
set_option maxRecDepth 100000 in
theorem m_X2_takeOutE (l : Launch) (E : EN) {am : Int → Nat} (hj : INM am) (th pg n : Int) (on se : Int → Int) (al : Int → Nat) (q : Int) (hq : q < 1 ∨ pg < q) (hr : -2147483648 ≤ q ∧ q ≤ 2147483647) (hpg : 1 ≤ pg ∧ pg ≤ 300) : Met l yX2_takeOut wsX2_takeOut ({ frames := 2, cells := 0, slots := 0, locals := 43 }) (CI E [.ref (am 0), .int (iI q)] (MW E am th pg n on se al)) (QW (some (.int (iI 0))) (MW E am 1 pg n on se al) (AM am)) 0 0 (AM am) := by
  refine g_met (cc := cX2_takeOut) (maxL := 5) (ret := (some .int)) (lv := [(0, .ref (am 0)), (1, .int (iI q))]) (by decide) rfl (Nat.le_of_ble_eq_true rfl) rfl ?_
  intro xp xe xs xm xa xb xh xc S xK xr xlk xin
  have kf24 := S.2.2.2.2 (.fieldLink RX2 24 "BookIndexModel" "thrown" "I") (by decide +kernel)
  have hin2 : ∀ w ∈ wsX20, w ∈ wsX2_takeOut := by decide +kernel
  refine g_aload_n S dX2_takeOut_0 rfl 0 rfl ?_
  refine g_iconst S dX2_takeOut_1 ?_
  refine g_put S xK (Wp' := MW E am 0 pg n on se al) (ref := "BookIndexModel") (ty := .int) hin2 tyX2 tyX2_ok nmX2 0 (by decide) (show vwCl[2]? = some (RX2, TX2, 6) from rfl) kf24 (fun _ h9 => h9) rfl (by decide +kernel) rfl rfl (fun _ h => mw_x h) (Nat.le_of_ble_eq_true rfl) (am_in (by omega)) (fun _ _ h hv _ oq => mw_sX hj h hv oq) dX2_takeOut_2 ?_
  refine g_aload_n S dX2_takeOut_5 rfl 0 rfl ?_
  refine g_iload_n S dX2_takeOut_6 rfl 1 rfl ?_
  refine g_callV S xK (As := [.int (iI q)]) (st := []) (stk' := [.int (iI (pI (1 ≤ q ∧ q ≤ pg)))]) (Wp' := MW E am 0 pg n on se al) (r := (RX2, TX2, 6)) (m_X2_isPage l E hj 0 pg n on se al q (by omega) hpg) (cwV 1 S.2.2.2.2 gX2_takeOut_X2_isPage rfl rfl rfl (by decide +kernel) ⟨Nat.le_of_ble_eq_true rfl, Nat.le_of_ble_eq_true rfl⟩) rfl rfl rfl rfl (Nat.le_of_ble_eq_true rfl) ⟨Nat.le_of_ble_eq_true rfl, Nat.le_of_ble_eq_true rfl⟩ (fun _ q => q.elim) (fun _ h => mw_x h) (fun _ h => h) (fun _ _ _ h _ _ => h) dX2_takeOut_7 ?_
  have z10 := pI_b (1 ≤ q ∧ q ≤ pg)
  refine g_if_ne S (tgt := 19) dX2_takeOut_10 (by decide) (by omega) (fun c10 => ?_) (fun c10 => ?_)
  · skip
    exact absurd c10 (fun z => z (pI_f (P := 1 ≤ q ∧ q ≤ pg) (by omega)))
  · skip
    refine g_aload_n S dX2_takeOut_13 rfl 0 rfl ?_
    refine g_iconst S dX2_takeOut_14 ?_
    refine g_callV S xK (As := [.int (iI 1)]) (st := []) (stk' := [.int (iI 0)]) (Wp' := MW E am 1 pg n on se al) (r := (RX2, TX2, 6)) (m_X2_no l E hj 0 pg n on se al 1 ) (cwV 1 S.2.2.2.2 gX2_takeOut_X2_no rfl rfl rfl (by decide +kernel) ⟨Nat.le_of_ble_eq_true rfl, Nat.le_of_ble_eq_true rfl⟩) rfl rfl rfl rfl (Nat.le_of_ble_eq_true rfl) ⟨Nat.le_of_ble_eq_true rfl, Nat.le_of_ble_eq_true rfl⟩ (fun _ q => q) (fun _ h => mw_x h) (fun _ h => h) (fun _ _ _ h _ _ => h) dX2_takeOut_15 ?_
    exact g_iret S xr xlk dX2_takeOut_18 (fun _ h => h)
set_option maxHeartbeats 4000000 in
set_option maxRecDepth 100000 in
theorem m_X2_takeOutF (l : Launch) (E : EN) {am : Int → Nat} (hj : INM am) (th pg n : Int) (on se : Int → Int) (al : Int → Nat) (q : Int) (hq : q = 1 ∧ pg = 1) (hpg : 1 ≤ pg ∧ pg ≤ 300) : Met l yX2_takeOut wsX2_takeOut ({ frames := 2, cells := 0, slots := 0, locals := 43 }) (CI E [.ref (am 0), .int (iI q)] (MW E am th pg n on se al)) (QW (some (.int (iI 0))) (MW E am 2 pg n on se al) (AM am)) 0 0 (AM am) := by
  refine g_met (cc := cX2_takeOut) (maxL := 5) (ret := (some .int)) (lv := [(0, .ref (am 0)), (1, .int (iI q))]) (by decide) rfl (Nat.le_of_ble_eq_true rfl) rfl ?_
  intro xp xe xs xm xa xb xh xc S xK xr xlk xin
  have kf24 := S.2.2.2.2 (.fieldLink RX2 24 "BookIndexModel" "thrown" "I") (by decide +kernel)
  have kf9 := S.2.2.2.2 (.fieldLink RX2 9 "BookIndexModel" "pages" "I") (by decide +kernel)
  have hin2 : ∀ w ∈ wsX20, w ∈ wsX2_takeOut := by decide +kernel
  refine g_aload_n S dX2_takeOut_0 rfl 0 rfl ?_
  refine g_iconst S dX2_takeOut_1 ?_
  refine g_put S xK (Wp' := MW E am 0 pg n on se al) (ref := "BookIndexModel") (ty := .int) hin2 tyX2 tyX2_ok nmX2 0 (by decide) (show vwCl[2]? = some (RX2, TX2, 6) from rfl) kf24 (fun _ h9 => h9) rfl (by decide +kernel) rfl rfl (fun _ h => mw_x h) (Nat.le_of_ble_eq_true rfl) (am_in (by omega)) (fun _ _ h hv _ oq => mw_sX hj h hv oq) dX2_takeOut_2 ?_
  refine g_aload_n S dX2_takeOut_5 rfl 0 rfl ?_
  refine g_iload_n S dX2_takeOut_6 rfl 1 rfl ?_
  refine g_callV S xK (As := [.int (iI q)]) (st := []) (stk' := [.int (iI (pI (1 ≤ q ∧ q ≤ pg)))]) (Wp' := MW E am 0 pg n on se al) (r := (RX2, TX2, 6)) (m_X2_isPage l E hj 0 pg n on se al q (by omega) hpg) (cwV 1 S.2.2.2.2 gX2_takeOut_X2_isPage rfl rfl rfl (by decide +kernel) ⟨Nat.le_of_ble_eq_true rfl, Nat.le_of_ble_eq_true rfl⟩) rfl rfl rfl rfl (Nat.le_of_ble_eq_true rfl) ⟨Nat.le_of_ble_eq_true rfl, Nat.le_of_ble_eq_true rfl⟩ (fun _ q => q.elim) (fun _ h => mw_x h) (fun _ h => h) (fun _ _ _ h _ _ => h) dX2_takeOut_7 ?_
  have z10 := pI_b (1 ≤ q ∧ q ≤ pg)
  refine g_if_ne S (tgt := 19) dX2_takeOut_10 (by decide) (by omega) (fun c10 => ?_) (fun c10 => ?_)
  · skip
    refine g_aload_n S dX2_takeOut_19 rfl 0 rfl ?_
    refine g_get S xK (ref := "BookIndexModel") hin2 1 (by decide) (show vwCl[2]? = some (RX2, TX2, 6) from rfl) kf9 (fun _ h9 => h9) (fun _ h => mw_x h) rfl dX2_takeOut_20 ?_
    refine g_iconst S dX2_takeOut_23 ?_
    refine g_icmp_ne S (tgt := 33) dX2_takeOut_24 (by decide) (by omega) (fun c24 => ?_) (fun c24 => ?_)
    · skip
      exact absurd c24 (by omega)
    · skip
      refine g_aload_n S dX2_takeOut_27 rfl 0 rfl ?_
      refine g_iconst S dX2_takeOut_28 ?_
      refine g_callV S xK (As := [.int (iI 2)]) (st := []) (stk' := [.int (iI 0)]) (Wp' := MW E am 2 pg n on se al) (r := (RX2, TX2, 6)) (m_X2_no l E hj 0 pg n on se al 2 ) (cwV 1 S.2.2.2.2 gX2_takeOut_X2_no rfl rfl rfl (by decide +kernel) ⟨Nat.le_of_ble_eq_true rfl, Nat.le_of_ble_eq_true rfl⟩) rfl rfl rfl rfl (Nat.le_of_ble_eq_true rfl) ⟨Nat.le_of_ble_eq_true rfl, Nat.le_of_ble_eq_true rfl⟩ (fun _ q => q) (fun _ h => mw_x h) (fun _ h => h) (fun _ _ _ h _ _ => h) dX2_takeOut_29 ?_
      exact g_iret S xr xlk dX2_takeOut_32 (fun _ h => h)
  · skip
    exact absurd c10 (by rw [pI_t (P := 1 ≤ q ∧ q ≤ pg) (by omega)]; decide)
